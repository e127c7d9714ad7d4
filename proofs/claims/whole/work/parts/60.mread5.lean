/-! the reference's reader: a part -/
def zLoW (w : Int32) : Int32 := if w = 111 then 20 else 0
def zHiW (w : Int32) : Int32 := if w = 117 then 10 else if w = 111 then 150 else 200
/-- what readPart does from the place P -/
def pRP (mem u : zM) (P L : Nat) (c0 w0 d0 : Int32) : Prop := zRd mem u ∧ (((c0 < 48 ∨ 51 < c0) ∧ u 0 11 = 1 ∧ u 0 10 = nI P) ∨ ((¬ (c0 < 48 ∨ 51 < c0)) ∧ P < L ∧ (¬ w0 = 117) ∧ (¬ w0 = 111) ∧ (¬ w0 = 114) ∧ (¬ w0 = 120) ∧ u 0 11 = 1 ∧ u 0 10 = nI (P + 1)) ∨ ((¬ (c0 < 48 ∨ 51 < c0)) ∧ P + 1 < L ∧ u 0 12 = c0 - 48 ∧ u 0 13 = w0 ∧ ((w0 = 120 ∧ u 0 11 = 0 ∧ u 0 10 = nI (P + 2)) ∨ ((w0 = 117 ∨ w0 = 111 ∨ w0 = 114) ∧ (((d0 < zLo (zLoW w0) ∨ 57 < d0) ∧ u 0 11 = 1 ∧ u 0 10 = nI (P + 2)) ∨ ((¬ (d0 < zLo (zLoW w0) ∨ 57 < d0)) ∧ u 0 10 = nI (mDig (mem 3) L (zLoW w0) (zHiW w0) (L - (P + 2 + 1)) (P + 2 + 1) (d0 - 48)).1 ∧ u 0 14 = (mDig (mem 3) L (zLoW w0) (zHiW w0) (L - (P + 2 + 1)) (P + 2 + 1) (d0 - 48)).2 ∧ u 0 11 = (if (mDig (mem 3) L (zLoW w0) (zHiW w0) (L - (P + 2 + 1)) (P + 2 + 1) (d0 - 48)).2 < zLoW w0 ∨ zHiW w0 < (mDig (mem 3) L (zLoW w0) (zHiW w0) (L - (P + 2 + 1)) (P + 2 + 1) (d0 - 48)).2 then 1 else 0)))))))
theorem zCh_lt {mem : zM} {P L : Nat} {c : Int32} (h : zCh mem P L = c) (hc : ¬ c = 0) : P < L := Decidable.byContradiction (fun q => hc (h.symm.trans (if_neg q)))
theorem zCh_rd {mem u : zM} (h : zRd mem u) (P L : Nat) : zCh u P L = zCh mem P L := by unfold zCh; rw [h.1 3 (by decide)]
set_option maxHeartbeats 1000000 in
set_option maxRecDepth 100000 in
theorem k_readPart (l : Launch) (D : va_G) (am : Nat → Nat) (cI cR cS cL : ClassId) (dg : Int64) (mem : zM) {P L : Nat} (hPL0 : P ≤ L) (hL : L ≤ 60) (hpl : mem 0 10 = nI P) (hln : mem 0 5 = nI L) (hwr : mem 0 11 = 0) {c0 w1 d0 : Int32} (hc0 : zCh mem P L = c0) (hw1 : zCh mem (P + 1) L = w1) (hd0 : zCh mem (P + 2) L = d0) : zMv l yX6_readPart wsX6_readPart ({ frames := 4, cells := 0, slots := 0, locals := 89 }) D (cK cI cR cS cL) [.ref (am 0)] (mw am cI dg mem) (fun u => pRP mem u P L c0 w1 d0) (mw am cI dg) 0 0 := by
  refine zMvM.of (cc := cX6_readPart) (maxL := 1) (ret := none) (by decide +kernel) rfl (lv0 := [(0, .ref (am 0))]) (Nat.le_of_ble_eq_true rfl) rfl ?_
  intro p e s m args below meth c E hZ hr hlocks hnm
  refine z_aload_n E dX6_readPart_0 rfl 0 rfl ?_
  refine z_aload_n E dX6_readPart_1 rfl 0 rfl ?_
  refine z_bipush (v := 48) E dX6_readPart_2 (by decide) ?_
  refine z_bipush (v := 51) E dX6_readPart_4 (by decide) ?_
  refine z_callVi E hZ (k_sign l D am cI cR cS cL dg mem hPL0 hL hpl hln hwr 48 51) gX6_readPart_X6_sign (n := 2) rfl rfl rfl (by decide +kernel) rfl ⟨(Nat.le_of_ble_eq_true rfl), (Nat.le_of_ble_eq_true rfl)⟩ (C := RX6) rfl 0 mw_obj (As := [.int 48, .int 51]) (rest := [.ref (am 0)]) rfl (Nat.le_of_ble_eq_true rfl) ⟨(Nat.le_of_ble_eq_true rfl), (Nat.le_of_ble_eq_true rfl)⟩ dX6_readPart_6 (fun r u hp => ?_)
  rw [hp.1, hp.2, hc0]
  refine z_gm2 (fun m1 hm1 => ?_)
  have zm1 : zRd mem m1 := by rw [hm1]; exact zRd_sign _ _ _ _ _
  by_cases hs : c0 < 48 ∨ 51 < c0
  · skip
    have hb : m1 = mset mem 0 11 1 := by rw [hm1]; unfold sSign; rw [hc0]; exact if_pos hs
    have j10 : m1 0 10 = nI P := by rw [hb, mset_ne2 _ _ (by decide)]; exact hpl
    have j11 : m1 0 11 = 1 := by rw [hb, mset_at]
    have j5 : m1 0 5 = nI L := by rw [zm1.2 5 (by omega)]; exact hln
    have j3 : m1 3 (P) = mem 3 (P) := by rw [zm1.1 3 (by decide)]
    refine z_bipush (v := 48) E dX6_readPart_9 (by decide) ?_
    refine z_isub E dX6_readPart_11 ?_
    refine z_put E 0 mw_obj (C := RX6) (T := TX6) (N := 16) rfl (fun _ h => List.mem_cons_of_mem _ (List.mem_append_right _ h)) tyX6 tyX6_ok nmX6 12 (by decide) (List.mem_of_getElem? (i := 1) (by decide +kernel)) rfl rfl rfl rfl (Nat.le_of_ble_eq_true rfl) (ws' := mw am cI dg (mset m1 0 12 (c0 - 48))) (ms_obj 12 (by decide) (by decide) rfl) dX6_readPart_12 ?_
    refine z_gm2 (fun m2 hm2 => ?_)
    have xm2_0 : m2 0 10 = nI P := by rw [hm2, mset_ne2 _ _ (by decide)]; exact j10
    have xm2_1 : m2 0 5 = nI L := by rw [hm2, mset_ne2 _ _ (by decide)]; exact j5
    have xm2_2 : m2 0 11 = 1 := by rw [hm2, mset_ne2 _ _ (by decide)]; exact j11
    have xm2_3 : m2 3 P = mem 3 P := by rw [hm2, mset_ne _ _ _ (by omega)]; exact j3
    refine z_aload_n E dX6_readPart_15 rfl 0 rfl ?_
    refine z_join (fun v40 => v40 = zCh mem P L) (pc2 := 40) (c2 := 0) (s2 := 0) (lv2 := (fun _ => [(0, .ref (am 0))])) (st2 := (fun v40 => [.int v40, .ref (am 0)])) (fun v40 hv40 => ?_) (fun J40 => ?_)
    · subst hv40
      obtain ⟨w0, hw0⟩ : ∃ w, zCh mem P L = w := ⟨_, rfl⟩
      rw [hw0]
      refine z_put E 0 mw_obj (C := RX6) (T := TX6) (N := 16) rfl (fun _ h => List.mem_cons_of_mem _ (List.mem_append_right _ h)) tyX6 tyX6_ok nmX6 13 (by decide) (List.mem_of_getElem? (i := 5) (by decide +kernel)) rfl rfl rfl rfl (Nat.le_of_ble_eq_true rfl) (ws' := mw am cI dg (mset m2 0 13 w0)) (ms_obj 13 (by decide) (by decide) rfl) dX6_readPart_40 ?_
      refine z_gm2 (fun m3 hm3 => ?_)
      have xm3_0 : m3 0 10 = nI P := by rw [hm3, mset_ne2 _ _ (by decide)]; exact xm2_0
      have xm3_1 : m3 0 5 = nI L := by rw [hm3, mset_ne2 _ _ (by decide)]; exact xm2_1
      have xm3_2 : m3 0 11 = 1 := by rw [hm3, mset_ne2 _ _ (by decide)]; exact xm2_2
      have xm3_3 : m3 3 P = mem 3 P := by rw [hm3, mset_ne _ _ _ (by omega)]; exact xm2_3
      refine z_aload_n E dX6_readPart_43 rfl 0 rfl ?_
      refine z_aload_n E dX6_readPart_44 rfl 0 rfl ?_
      refine z_get E 0 mw_obj (C := RX6) (T := TX6) (N := 16) rfl (fun _ h => List.mem_cons_of_mem _ (List.mem_append_right _ h)) 11 (by decide) (List.mem_of_getElem? (i := 6) (by decide +kernel)) rfl (v := .int 1) (congrArg (fun z : Int32 => some (Value.int z)) xm3_2) dX6_readPart_45 ?_
      refine z_if_ne_t (tgt := 87) E dX6_readPart_48 (by decide) (by decide) ?_
      refine z_iconst (v := 1) E dX6_readPart_87 (by decide) ?_
      refine z_goto (tgt := 92) E dX6_readPart_88 (by decide) ?_
      refine z_put E 0 mw_obj (C := RX6) (T := TX6) (N := 16) rfl (fun _ h => List.mem_cons_of_mem _ (List.mem_append_right _ h)) tyX6 tyX6_ok nmX6 11 (by decide) (List.mem_of_getElem? (i := 6) (by decide +kernel)) rfl rfl rfl rfl (Nat.le_of_ble_eq_true rfl) (ws' := mw am cI dg (mset m3 0 11 1)) (ms_obj 11 (by decide) (by decide) rfl) dX6_readPart_92 ?_
      refine z_gm2 (fun m4 hm4 => ?_)
      have xm4_0 : m4 0 10 = nI P := by rw [hm4, mset_ne2 _ _ (by decide)]; exact xm3_0
      have xm4_1 : m4 0 5 = nI L := by rw [hm4, mset_ne2 _ _ (by decide)]; exact xm3_1
      have xm4_2 : m4 0 11 = 1 := by rw [hm4, mset_at]
      have xm4_3 : m4 3 P = mem 3 P := by rw [hm4, mset_ne _ _ _ (by omega)]; exact xm3_3
      refine z_aload_n E dX6_readPart_95 rfl 0 rfl ?_
      refine z_dup E dX6_readPart_96 rfl ?_
      refine z_get E 0 mw_obj (C := RX6) (T := TX6) (N := 16) rfl (fun _ h => List.mem_cons_of_mem _ (List.mem_append_right _ h)) 10 (by decide) (List.mem_of_getElem? (i := 2) (by decide +kernel)) rfl (v := .int (nI P)) (congrArg (fun z : Int32 => some (Value.int z)) xm4_0) dX6_readPart_97 ?_
      refine z_aload_n E dX6_readPart_100 rfl 0 rfl ?_
      refine z_get E 0 mw_obj (C := RX6) (T := TX6) (N := 16) rfl (fun _ h => List.mem_cons_of_mem _ (List.mem_append_right _ h)) 11 (by decide) (List.mem_of_getElem? (i := 6) (by decide +kernel)) rfl (v := .int 1) (congrArg (fun z : Int32 => some (Value.int z)) xm4_2) dX6_readPart_101 ?_
      refine z_if_eq_f (tgt := 111) E dX6_readPart_104 (by decide) (by decide) ?_
      refine z_iconst (v := 0) E dX6_readPart_107 (by decide) ?_
      refine z_goto (tgt := 112) E dX6_readPart_108 (by decide) ?_
      refine z_iadd E dX6_readPart_112 ?_
      refine z_put E 0 mw_obj (C := RX6) (T := TX6) (N := 16) rfl (fun _ h => List.mem_cons_of_mem _ (List.mem_append_right _ h)) tyX6 tyX6_ok nmX6 10 (by decide) (List.mem_of_getElem? (i := 2) (by decide +kernel)) rfl rfl rfl rfl (Nat.le_of_ble_eq_true rfl) (ws' := mw am cI dg (mset m4 0 10 ((nI P) + 0))) (ms_obj 10 (by decide) (by decide) rfl) dX6_readPart_113 ?_
      refine z_gm2 (fun m5 hm5 => ?_)
      have xm5_0 : m5 0 10 = (nI P) + 0 := by rw [hm5, mset_at]
      have xm5_1 : m5 0 5 = nI L := by rw [hm5, mset_ne2 _ _ (by decide)]; exact xm4_1
      have xm5_2 : m5 0 11 = 1 := by rw [hm5, mset_ne2 _ _ (by decide)]; exact xm4_2
      have xm5_3 : m5 3 P = mem 3 P := by rw [hm5, mset_ne _ _ _ (by omega)]; exact xm4_3
      refine z_aload_n E dX6_readPart_116 rfl 0 rfl ?_
      refine z_get E 0 mw_obj (C := RX6) (T := TX6) (N := 16) rfl (fun _ h => List.mem_cons_of_mem _ (List.mem_append_right _ h)) 13 (by decide) (List.mem_of_getElem? (i := 5) (by decide +kernel)) rfl (v := .int w0) (congrArg (fun z : Int32 => some (Value.int z)) (show m5 0 13 = w0 from (by simp [hm5, hm4, hm3, hm2, mset]))) dX6_readPart_117 ?_
      refine z_bipush (v := 120) E dX6_readPart_120 (by decide) ?_
      refine z_icmp_eq (tgt := 183) E dX6_readPart_122 (by decide) (fun c122 => ?_) (fun c122 => ?_)
      · skip
        exact z_vretM E hr hlocks (m5) rfl ⟨by rw [hm5, hm4, hm3, hm2]; exact ((((zm1.fld (by omega) _).fld (by omega) _).fld (by omega) _).fld (by omega) _), Or.inl ⟨hs, xm5_2, (xm5_0).trans (Int32.add_zero _)⟩⟩ (Nat.le_of_ble_eq_true rfl) (Nat.le_of_ble_eq_true rfl) dX6_readPart_183
      · skip
        refine z_aload_n E dX6_readPart_125 rfl 0 rfl ?_
        refine z_get E 0 mw_obj (C := RX6) (T := TX6) (N := 16) rfl (fun _ h => List.mem_cons_of_mem _ (List.mem_append_right _ h)) 11 (by decide) (List.mem_of_getElem? (i := 6) (by decide +kernel)) rfl (v := .int 1) (congrArg (fun z : Int32 => some (Value.int z)) xm5_2) dX6_readPart_126 ?_
        refine z_if_ne_t (tgt := 183) E dX6_readPart_129 (by decide) (by decide) ?_
        exact z_vretM E hr hlocks (m5) rfl ⟨by rw [hm5, hm4, hm3, hm2]; exact ((((zm1.fld (by omega) _).fld (by omega) _).fld (by omega) _).fld (by omega) _), Or.inl ⟨hs, xm5_2, (xm5_0).trans (Int32.add_zero _)⟩⟩ (Nat.le_of_ble_eq_true rfl) (Nat.le_of_ble_eq_true rfl) dX6_readPart_183
    · skip
      refine z_aload_n E dX6_readPart_16 rfl 0 rfl ?_
      refine z_get E 0 mw_obj (C := RX6) (T := TX6) (N := 16) rfl (fun _ h => List.mem_cons_of_mem _ (List.mem_append_right _ h)) 10 (by decide) (List.mem_of_getElem? (i := 2) (by decide +kernel)) rfl (v := .int (nI P)) (congrArg (fun z : Int32 => some (Value.int z)) xm2_0) dX6_readPart_17 ?_
      refine z_aload_n E dX6_readPart_20 rfl 0 rfl ?_
      refine z_get E 0 mw_obj (C := RX6) (T := TX6) (N := 16) rfl (fun _ h => List.mem_cons_of_mem _ (List.mem_append_right _ h)) 5 (by decide) (List.mem_of_getElem? (i := 3) (by decide +kernel)) rfl (v := .int (nI L)) (congrArg (fun z : Int32 => some (Value.int z)) xm2_1) dX6_readPart_21 ?_
      refine z_icmp_ge (tgt := 39) E dX6_readPart_24 (by decide) (fun c24 => ?_) (fun c24 => ?_)
      · skip
        refine z_iconst (v := 0) E dX6_readPart_39 (by decide) ?_
        exact J40 _ (if_neg (by have := (nI_leI (by omega) (by omega)).mp c24; omega)).symm
      · skip
        have hQ := zklt (k := P) (L := L) (by omega) (by omega) c24
        refine z_aload_n E dX6_readPart_27 rfl 0 rfl ?_
        refine z_get E 0 mw_obj (C := RX6) (T := TX6) (N := 16) rfl (fun _ h => List.mem_cons_of_mem _ (List.mem_append_right _ h)) 4 (by decide) (List.mem_of_getElem? (i := 4) (by decide +kernel)) rfl (v := .ref (am 3)) rfl dX6_readPart_28 ?_
        refine z_aload_n E dX6_readPart_31 rfl 0 rfl ?_
        refine z_get E 0 mw_obj (C := RX6) (T := TX6) (N := 16) rfl (fun _ h => List.mem_cons_of_mem _ (List.mem_append_right _ h)) 10 (by decide) (List.mem_of_getElem? (i := 2) (by decide +kernel)) rfl (v := .int (nI P)) (congrArg (fun z : Int32 => some (Value.int z)) xm2_0) dX6_readPart_32 ?_
        refine z_iald E 3 0 mw_text rfl (vp_in_nI (by omega) (by decide)) (v := mem 3 P) ((congrArg (m2 3) (nI_clamp (by omega))).trans xm2_3) dX6_readPart_35 ?_
        refine z_goto (tgt := 40) E dX6_readPart_36 (by decide) ?_
        exact J40 _ (if_pos hQ).symm
  · skip
    have hb : m1 = mset mem 0 10 (nI (P + 1)) := by rw [hm1]; unfold sSign; rw [hc0]; exact if_neg hs
    have hPL : P < L := zCh_lt hc0 (fun q => hs (Or.inl (by rw [q]; decide)))
    have j10 : m1 0 10 = nI (P + 1) := by rw [hb, mset_at]
    have j11 : m1 0 11 = 0 := by rw [hb, mset_ne2 _ _ (by decide)]; exact hwr
    have j5 : m1 0 5 = nI L := by rw [zm1.2 5 (by omega)]; exact hln
    have j3 : m1 3 (P + 1) = mem 3 (P + 1) := by rw [zm1.1 3 (by decide)]
    refine z_bipush (v := 48) E dX6_readPart_9 (by decide) ?_
    refine z_isub E dX6_readPart_11 ?_
    refine z_put E 0 mw_obj (C := RX6) (T := TX6) (N := 16) rfl (fun _ h => List.mem_cons_of_mem _ (List.mem_append_right _ h)) tyX6 tyX6_ok nmX6 12 (by decide) (List.mem_of_getElem? (i := 1) (by decide +kernel)) rfl rfl rfl rfl (Nat.le_of_ble_eq_true rfl) (ws' := mw am cI dg (mset m1 0 12 (c0 - 48))) (ms_obj 12 (by decide) (by decide) rfl) dX6_readPart_12 ?_
    refine z_gm2 (fun m6 hm6 => ?_)
    have xm6_0 : m6 0 10 = nI (P + 1) := by rw [hm6, mset_ne2 _ _ (by decide)]; exact j10
    have xm6_1 : m6 0 5 = nI L := by rw [hm6, mset_ne2 _ _ (by decide)]; exact j5
    have xm6_2 : m6 0 11 = 0 := by rw [hm6, mset_ne2 _ _ (by decide)]; exact j11
    have xm6_3 : m6 3 (P + 1) = mem 3 (P + 1) := by rw [hm6, mset_ne _ _ _ (by omega)]; exact j3
    refine z_aload_n E dX6_readPart_15 rfl 0 rfl ?_
    refine z_join (fun v40 => v40 = zCh mem (P + 1) L) (pc2 := 40) (c2 := 0) (s2 := 0) (lv2 := (fun _ => [(0, .ref (am 0))])) (st2 := (fun v40 => [.int v40, .ref (am 0)])) (fun v40 hv40 => ?_) (fun J40 => ?_)
    · subst hv40
      obtain ⟨w0, hw0⟩ : ∃ w, zCh mem (P + 1) L = w := ⟨_, rfl⟩
      rw [hw0]
      refine z_put E 0 mw_obj (C := RX6) (T := TX6) (N := 16) rfl (fun _ h => List.mem_cons_of_mem _ (List.mem_append_right _ h)) tyX6 tyX6_ok nmX6 13 (by decide) (List.mem_of_getElem? (i := 5) (by decide +kernel)) rfl rfl rfl rfl (Nat.le_of_ble_eq_true rfl) (ws' := mw am cI dg (mset m6 0 13 w0)) (ms_obj 13 (by decide) (by decide) rfl) dX6_readPart_40 ?_
      refine z_gm2 (fun m7 hm7 => ?_)
      have xm7_0 : m7 0 10 = nI (P + 1) := by rw [hm7, mset_ne2 _ _ (by decide)]; exact xm6_0
      have xm7_1 : m7 0 5 = nI L := by rw [hm7, mset_ne2 _ _ (by decide)]; exact xm6_1
      have xm7_2 : m7 0 11 = 0 := by rw [hm7, mset_ne2 _ _ (by decide)]; exact xm6_2
      have xm7_3 : m7 3 (P + 1) = mem 3 (P + 1) := by rw [hm7, mset_ne _ _ _ (by omega)]; exact xm6_3
      refine z_aload_n E dX6_readPart_43 rfl 0 rfl ?_
      refine z_aload_n E dX6_readPart_44 rfl 0 rfl ?_
      refine z_get E 0 mw_obj (C := RX6) (T := TX6) (N := 16) rfl (fun _ h => List.mem_cons_of_mem _ (List.mem_append_right _ h)) 11 (by decide) (List.mem_of_getElem? (i := 6) (by decide +kernel)) rfl (v := .int 0) (congrArg (fun z : Int32 => some (Value.int z)) xm7_2) dX6_readPart_45 ?_
      refine z_if_ne_f (tgt := 87) E dX6_readPart_48 (by decide) (by decide) ?_
      refine z_aload_n E dX6_readPart_51 rfl 0 rfl ?_
      refine z_get E 0 mw_obj (C := RX6) (T := TX6) (N := 16) rfl (fun _ h => List.mem_cons_of_mem _ (List.mem_append_right _ h)) 13 (by decide) (List.mem_of_getElem? (i := 5) (by decide +kernel)) rfl (v := .int w0) (congrArg (fun z : Int32 => some (Value.int z)) (show m7 0 13 = w0 from (by simp [hm7, hm6, mset]))) dX6_readPart_52 ?_
      refine z_bipush (v := 117) E dX6_readPart_55 (by decide) ?_
      refine z_icmp_eq (tgt := 91) E dX6_readPart_57 (by decide) (fun c57 => ?_) (fun c57 => ?_)
      · skip
        refine z_iconst (v := 0) E dX6_readPart_91 (by decide) ?_
        refine z_put E 0 mw_obj (C := RX6) (T := TX6) (N := 16) rfl (fun _ h => List.mem_cons_of_mem _ (List.mem_append_right _ h)) tyX6 tyX6_ok nmX6 11 (by decide) (List.mem_of_getElem? (i := 6) (by decide +kernel)) rfl rfl rfl rfl (Nat.le_of_ble_eq_true rfl) (ws' := mw am cI dg (mset m7 0 11 0)) (ms_obj 11 (by decide) (by decide) rfl) dX6_readPart_92 ?_
        refine z_gm2 (fun m8 hm8 => ?_)
        have xm8_0 : m8 0 10 = nI (P + 1) := by rw [hm8, mset_ne2 _ _ (by decide)]; exact xm7_0
        have xm8_1 : m8 0 5 = nI L := by rw [hm8, mset_ne2 _ _ (by decide)]; exact xm7_1
        have xm8_2 : m8 0 11 = 0 := by rw [hm8, mset_at]
        have xm8_3 : m8 3 (P + 1) = mem 3 (P + 1) := by rw [hm8, mset_ne _ _ _ (by omega)]; exact xm7_3
        subst c57
        refine z_aload_n E dX6_readPart_95 rfl 0 rfl ?_
        refine z_dup E dX6_readPart_96 rfl ?_
        refine z_get E 0 mw_obj (C := RX6) (T := TX6) (N := 16) rfl (fun _ h => List.mem_cons_of_mem _ (List.mem_append_right _ h)) 10 (by decide) (List.mem_of_getElem? (i := 2) (by decide +kernel)) rfl (v := .int (nI (P + 1))) (congrArg (fun z : Int32 => some (Value.int z)) xm8_0) dX6_readPart_97 ?_
        refine z_aload_n E dX6_readPart_100 rfl 0 rfl ?_
        refine z_get E 0 mw_obj (C := RX6) (T := TX6) (N := 16) rfl (fun _ h => List.mem_cons_of_mem _ (List.mem_append_right _ h)) 11 (by decide) (List.mem_of_getElem? (i := 6) (by decide +kernel)) rfl (v := .int 0) (congrArg (fun z : Int32 => some (Value.int z)) xm8_2) dX6_readPart_101 ?_
        refine z_if_eq_t (tgt := 111) E dX6_readPart_104 (by decide) (by decide) ?_
        refine z_iconst (v := 1) E dX6_readPart_111 (by decide) ?_
        refine z_iadd E dX6_readPart_112 ?_
        refine z_put E 0 mw_obj (C := RX6) (T := TX6) (N := 16) rfl (fun _ h => List.mem_cons_of_mem _ (List.mem_append_right _ h)) tyX6 tyX6_ok nmX6 10 (by decide) (List.mem_of_getElem? (i := 2) (by decide +kernel)) rfl rfl rfl rfl (Nat.le_of_ble_eq_true rfl) (ws' := mw am cI dg (mset m8 0 10 ((nI (P + 1)) + 1))) (ms_obj 10 (by decide) (by decide) rfl) dX6_readPart_113 ?_
        refine z_gm2 (fun m9 hm9 => ?_)
        have xm9_0 : m9 0 10 = (nI (P + 1)) + 1 := by rw [hm9, mset_at]
        have xm9_1 : m9 0 5 = nI L := by rw [hm9, mset_ne2 _ _ (by decide)]; exact xm8_1
        have xm9_2 : m9 0 11 = 0 := by rw [hm9, mset_ne2 _ _ (by decide)]; exact xm8_2
        have xm9_3 : m9 3 (P + 1) = mem 3 (P + 1) := by rw [hm9, mset_ne _ _ _ (by omega)]; exact xm8_3
        refine z_aload_n E dX6_readPart_116 rfl 0 rfl ?_
        refine z_get E 0 mw_obj (C := RX6) (T := TX6) (N := 16) rfl (fun _ h => List.mem_cons_of_mem _ (List.mem_append_right _ h)) 13 (by decide) (List.mem_of_getElem? (i := 5) (by decide +kernel)) rfl (v := .int 117) (congrArg (fun z : Int32 => some (Value.int z)) (show m9 0 13 = 117 from (by simp [hm9, hm8, hm7, hm6, mset]))) dX6_readPart_117 ?_
        refine z_bipush (v := 120) E dX6_readPart_120 (by decide) ?_
        refine z_icmp_eq_f (tgt := 183) E dX6_readPart_122 (by decide) (by decide) ?_
        refine z_aload_n E dX6_readPart_125 rfl 0 rfl ?_
        refine z_get E 0 mw_obj (C := RX6) (T := TX6) (N := 16) rfl (fun _ h => List.mem_cons_of_mem _ (List.mem_append_right _ h)) 11 (by decide) (List.mem_of_getElem? (i := 6) (by decide +kernel)) rfl (v := .int 0) (congrArg (fun z : Int32 => some (Value.int z)) xm9_2) dX6_readPart_126 ?_
        refine z_if_ne_f (tgt := 183) E dX6_readPart_129 (by decide) (by decide) ?_
        refine z_aload_n E dX6_readPart_132 rfl 0 rfl ?_
        refine z_aload_n E dX6_readPart_133 rfl 0 rfl ?_
        refine z_get E 0 mw_obj (C := RX6) (T := TX6) (N := 16) rfl (fun _ h => List.mem_cons_of_mem _ (List.mem_append_right _ h)) 13 (by decide) (List.mem_of_getElem? (i := 5) (by decide +kernel)) rfl (v := .int 117) (congrArg (fun z : Int32 => some (Value.int z)) (show m9 0 13 = 117 from (by simp [hm9, hm8, hm7, hm6, mset]))) dX6_readPart_134 ?_
        refine z_bipush (v := 111) E dX6_readPart_137 (by decide) ?_
        refine z_icmp_ne_t (tgt := 147) E dX6_readPart_139 (by decide) (by decide) ?_
        refine z_iconst (v := 0) E dX6_readPart_147 (by decide) ?_
        refine z_aload_n E dX6_readPart_148 rfl 0 rfl ?_
        refine z_get E 0 mw_obj (C := RX6) (T := TX6) (N := 16) rfl (fun _ h => List.mem_cons_of_mem _ (List.mem_append_right _ h)) 13 (by decide) (List.mem_of_getElem? (i := 5) (by decide +kernel)) rfl (v := .int 117) (congrArg (fun z : Int32 => some (Value.int z)) (show m9 0 13 = 117 from (by simp [hm9, hm8, hm7, hm6, mset]))) dX6_readPart_149 ?_
        refine z_bipush (v := 117) E dX6_readPart_152 (by decide) ?_
        refine z_icmp_ne_f (tgt := 162) E dX6_readPart_154 (by decide) (by decide) ?_
        refine z_bipush (v := 10) E dX6_readPart_157 (by decide) ?_
        refine z_goto (tgt := 180) E dX6_readPart_159 (by decide) ?_
        have hQL : P + 1 < L := zCh_lt hw0 (by decide)
        have zz : zRd mem m9 := by rw [hm9, hm8, hm7, hm6]; exact ((((zm1.fld (by omega) _).fld (by omega) _).fld (by omega) _).fld (by omega) _)
        have r10 : m9 0 10 = nI (P + 2) := xm9_0.trans (nI_1 (P + 1))
        have r11 : m9 0 11 = 0 := xm9_2
        have r12 : m9 0 12 = c0 - 48 := by simp [hm9, hm8, hm7, hm6, mset]
        have r13 : m9 0 13 = 117 := by simp [hm9, hm8, hm7, hm6, mset]
        refine z_callVv E hZ (k_readNumber l D am cI cR cS cL dg m9 (P := P + 2) (L := L) (by omega) hL r10 (by rw [zz.2 5 (by omega)]; exact hln) r11 0 10 (c0 := d0) (by rw [zCh_rd zz]; exact hd0)) gX6_readPart_X6_readNumber (n := 2) rfl rfl rfl (by decide +kernel) rfl ⟨(Nat.le_of_ble_eq_true rfl), (Nat.le_of_ble_eq_true rfl)⟩ (C := RX6) rfl 0 mw_obj (As := [.int 0, .int 10]) (rest := []) rfl (Nat.le_of_ble_eq_true rfl) ⟨(Nat.le_of_ble_eq_true rfl), (Nat.le_of_ble_eq_true rfl)⟩ dX6_readPart_180 (fun m10 hp => ?_)
        rw [zz.1 3 (by decide)] at hp
        exact z_vretM E hr hlocks (m10) rfl (by have hwv : w1 = 117 := hw1.symm.trans hw0; subst hwv; refine ⟨zz.trans hp.1, Or.inr (Or.inr ⟨hs, hQL, hp.2.1.trans r12, hp.2.2.1.trans r13, Or.inr ⟨Or.inl rfl, ?_⟩⟩)⟩; rw [show zLoW 117 = 0 by decide, show zHiW 117 = 10 by decide]; exact hp.2.2.2) (Nat.le_of_ble_eq_true rfl) (Nat.le_of_ble_eq_true rfl) dX6_readPart_183
      · skip
        refine z_aload_n E dX6_readPart_60 rfl 0 rfl ?_
        refine z_get E 0 mw_obj (C := RX6) (T := TX6) (N := 16) rfl (fun _ h => List.mem_cons_of_mem _ (List.mem_append_right _ h)) 13 (by decide) (List.mem_of_getElem? (i := 5) (by decide +kernel)) rfl (v := .int w0) (congrArg (fun z : Int32 => some (Value.int z)) (show m7 0 13 = w0 from (by simp [hm7, hm6, mset]))) dX6_readPart_61 ?_
        refine z_bipush (v := 111) E dX6_readPart_64 (by decide) ?_
        refine z_icmp_eq (tgt := 91) E dX6_readPart_66 (by decide) (fun c66 => ?_) (fun c66 => ?_)
        · skip
          refine z_iconst (v := 0) E dX6_readPart_91 (by decide) ?_
          refine z_put E 0 mw_obj (C := RX6) (T := TX6) (N := 16) rfl (fun _ h => List.mem_cons_of_mem _ (List.mem_append_right _ h)) tyX6 tyX6_ok nmX6 11 (by decide) (List.mem_of_getElem? (i := 6) (by decide +kernel)) rfl rfl rfl rfl (Nat.le_of_ble_eq_true rfl) (ws' := mw am cI dg (mset m7 0 11 0)) (ms_obj 11 (by decide) (by decide) rfl) dX6_readPart_92 ?_
          refine z_gm2 (fun m11 hm11 => ?_)
          have xm11_0 : m11 0 10 = nI (P + 1) := by rw [hm11, mset_ne2 _ _ (by decide)]; exact xm7_0
          have xm11_1 : m11 0 5 = nI L := by rw [hm11, mset_ne2 _ _ (by decide)]; exact xm7_1
          have xm11_2 : m11 0 11 = 0 := by rw [hm11, mset_at]
          have xm11_3 : m11 3 (P + 1) = mem 3 (P + 1) := by rw [hm11, mset_ne _ _ _ (by omega)]; exact xm7_3
          subst c66
          refine z_aload_n E dX6_readPart_95 rfl 0 rfl ?_
          refine z_dup E dX6_readPart_96 rfl ?_
          refine z_get E 0 mw_obj (C := RX6) (T := TX6) (N := 16) rfl (fun _ h => List.mem_cons_of_mem _ (List.mem_append_right _ h)) 10 (by decide) (List.mem_of_getElem? (i := 2) (by decide +kernel)) rfl (v := .int (nI (P + 1))) (congrArg (fun z : Int32 => some (Value.int z)) xm11_0) dX6_readPart_97 ?_
          refine z_aload_n E dX6_readPart_100 rfl 0 rfl ?_
          refine z_get E 0 mw_obj (C := RX6) (T := TX6) (N := 16) rfl (fun _ h => List.mem_cons_of_mem _ (List.mem_append_right _ h)) 11 (by decide) (List.mem_of_getElem? (i := 6) (by decide +kernel)) rfl (v := .int 0) (congrArg (fun z : Int32 => some (Value.int z)) xm11_2) dX6_readPart_101 ?_
          refine z_if_eq_t (tgt := 111) E dX6_readPart_104 (by decide) (by decide) ?_
          refine z_iconst (v := 1) E dX6_readPart_111 (by decide) ?_
          refine z_iadd E dX6_readPart_112 ?_
          refine z_put E 0 mw_obj (C := RX6) (T := TX6) (N := 16) rfl (fun _ h => List.mem_cons_of_mem _ (List.mem_append_right _ h)) tyX6 tyX6_ok nmX6 10 (by decide) (List.mem_of_getElem? (i := 2) (by decide +kernel)) rfl rfl rfl rfl (Nat.le_of_ble_eq_true rfl) (ws' := mw am cI dg (mset m11 0 10 ((nI (P + 1)) + 1))) (ms_obj 10 (by decide) (by decide) rfl) dX6_readPart_113 ?_
          refine z_gm2 (fun m12 hm12 => ?_)
          have xm12_0 : m12 0 10 = (nI (P + 1)) + 1 := by rw [hm12, mset_at]
          have xm12_1 : m12 0 5 = nI L := by rw [hm12, mset_ne2 _ _ (by decide)]; exact xm11_1
          have xm12_2 : m12 0 11 = 0 := by rw [hm12, mset_ne2 _ _ (by decide)]; exact xm11_2
          have xm12_3 : m12 3 (P + 1) = mem 3 (P + 1) := by rw [hm12, mset_ne _ _ _ (by omega)]; exact xm11_3
          refine z_aload_n E dX6_readPart_116 rfl 0 rfl ?_
          refine z_get E 0 mw_obj (C := RX6) (T := TX6) (N := 16) rfl (fun _ h => List.mem_cons_of_mem _ (List.mem_append_right _ h)) 13 (by decide) (List.mem_of_getElem? (i := 5) (by decide +kernel)) rfl (v := .int 111) (congrArg (fun z : Int32 => some (Value.int z)) (show m12 0 13 = 111 from (by simp [hm12, hm11, hm7, hm6, mset]))) dX6_readPart_117 ?_
          refine z_bipush (v := 120) E dX6_readPart_120 (by decide) ?_
          refine z_icmp_eq_f (tgt := 183) E dX6_readPart_122 (by decide) (by decide) ?_
          refine z_aload_n E dX6_readPart_125 rfl 0 rfl ?_
          refine z_get E 0 mw_obj (C := RX6) (T := TX6) (N := 16) rfl (fun _ h => List.mem_cons_of_mem _ (List.mem_append_right _ h)) 11 (by decide) (List.mem_of_getElem? (i := 6) (by decide +kernel)) rfl (v := .int 0) (congrArg (fun z : Int32 => some (Value.int z)) xm12_2) dX6_readPart_126 ?_
          refine z_if_ne_f (tgt := 183) E dX6_readPart_129 (by decide) (by decide) ?_
          refine z_aload_n E dX6_readPart_132 rfl 0 rfl ?_
          refine z_aload_n E dX6_readPart_133 rfl 0 rfl ?_
          refine z_get E 0 mw_obj (C := RX6) (T := TX6) (N := 16) rfl (fun _ h => List.mem_cons_of_mem _ (List.mem_append_right _ h)) 13 (by decide) (List.mem_of_getElem? (i := 5) (by decide +kernel)) rfl (v := .int 111) (congrArg (fun z : Int32 => some (Value.int z)) (show m12 0 13 = 111 from (by simp [hm12, hm11, hm7, hm6, mset]))) dX6_readPart_134 ?_
          refine z_bipush (v := 111) E dX6_readPart_137 (by decide) ?_
          refine z_icmp_ne_f (tgt := 147) E dX6_readPart_139 (by decide) (by decide) ?_
          refine z_bipush (v := 20) E dX6_readPart_142 (by decide) ?_
          refine z_goto (tgt := 148) E dX6_readPart_144 (by decide) ?_
          refine z_aload_n E dX6_readPart_148 rfl 0 rfl ?_
          refine z_get E 0 mw_obj (C := RX6) (T := TX6) (N := 16) rfl (fun _ h => List.mem_cons_of_mem _ (List.mem_append_right _ h)) 13 (by decide) (List.mem_of_getElem? (i := 5) (by decide +kernel)) rfl (v := .int 111) (congrArg (fun z : Int32 => some (Value.int z)) (show m12 0 13 = 111 from (by simp [hm12, hm11, hm7, hm6, mset]))) dX6_readPart_149 ?_
          refine z_bipush (v := 117) E dX6_readPart_152 (by decide) ?_
          refine z_icmp_ne_t (tgt := 162) E dX6_readPart_154 (by decide) (by decide) ?_
          refine z_aload_n E dX6_readPart_162 rfl 0 rfl ?_
          refine z_get E 0 mw_obj (C := RX6) (T := TX6) (N := 16) rfl (fun _ h => List.mem_cons_of_mem _ (List.mem_append_right _ h)) 13 (by decide) (List.mem_of_getElem? (i := 5) (by decide +kernel)) rfl (v := .int 111) (congrArg (fun z : Int32 => some (Value.int z)) (show m12 0 13 = 111 from (by simp [hm12, hm11, hm7, hm6, mset]))) dX6_readPart_163 ?_
          refine z_bipush (v := 111) E dX6_readPart_166 (by decide) ?_
          refine z_icmp_ne_f (tgt := 177) E dX6_readPart_168 (by decide) (by decide) ?_
          refine z_sipush (v := 150) E dX6_readPart_171 (by decide) ?_
          refine z_goto (tgt := 180) E dX6_readPart_174 (by decide) ?_
          have hQL : P + 1 < L := zCh_lt hw0 (by decide)
          have zz : zRd mem m12 := by rw [hm12, hm11, hm7, hm6]; exact ((((zm1.fld (by omega) _).fld (by omega) _).fld (by omega) _).fld (by omega) _)
          have r10 : m12 0 10 = nI (P + 2) := xm12_0.trans (nI_1 (P + 1))
          have r11 : m12 0 11 = 0 := xm12_2
          have r12 : m12 0 12 = c0 - 48 := by simp [hm12, hm11, hm7, hm6, mset]
          have r13 : m12 0 13 = 111 := by simp [hm12, hm11, hm7, hm6, mset]
          refine z_callVv E hZ (k_readNumber l D am cI cR cS cL dg m12 (P := P + 2) (L := L) (by omega) hL r10 (by rw [zz.2 5 (by omega)]; exact hln) r11 20 150 (c0 := d0) (by rw [zCh_rd zz]; exact hd0)) gX6_readPart_X6_readNumber (n := 2) rfl rfl rfl (by decide +kernel) rfl ⟨(Nat.le_of_ble_eq_true rfl), (Nat.le_of_ble_eq_true rfl)⟩ (C := RX6) rfl 0 mw_obj (As := [.int 20, .int 150]) (rest := []) rfl (Nat.le_of_ble_eq_true rfl) ⟨(Nat.le_of_ble_eq_true rfl), (Nat.le_of_ble_eq_true rfl)⟩ dX6_readPart_180 (fun m13 hp => ?_)
          rw [zz.1 3 (by decide)] at hp
          exact z_vretM E hr hlocks (m13) rfl (by have hwv : w1 = 111 := hw1.symm.trans hw0; subst hwv; refine ⟨zz.trans hp.1, Or.inr (Or.inr ⟨hs, hQL, hp.2.1.trans r12, hp.2.2.1.trans r13, Or.inr ⟨Or.inr (Or.inl rfl), ?_⟩⟩)⟩; rw [show zLoW 111 = 20 by decide, show zHiW 111 = 150 by decide]; exact hp.2.2.2) (Nat.le_of_ble_eq_true rfl) (Nat.le_of_ble_eq_true rfl) dX6_readPart_183
        · skip
          refine z_aload_n E dX6_readPart_69 rfl 0 rfl ?_
          refine z_get E 0 mw_obj (C := RX6) (T := TX6) (N := 16) rfl (fun _ h => List.mem_cons_of_mem _ (List.mem_append_right _ h)) 13 (by decide) (List.mem_of_getElem? (i := 5) (by decide +kernel)) rfl (v := .int w0) (congrArg (fun z : Int32 => some (Value.int z)) (show m7 0 13 = w0 from (by simp [hm7, hm6, mset]))) dX6_readPart_70 ?_
          refine z_bipush (v := 114) E dX6_readPart_73 (by decide) ?_
          refine z_icmp_eq (tgt := 91) E dX6_readPart_75 (by decide) (fun c75 => ?_) (fun c75 => ?_)
          · skip
            refine z_iconst (v := 0) E dX6_readPart_91 (by decide) ?_
            refine z_put E 0 mw_obj (C := RX6) (T := TX6) (N := 16) rfl (fun _ h => List.mem_cons_of_mem _ (List.mem_append_right _ h)) tyX6 tyX6_ok nmX6 11 (by decide) (List.mem_of_getElem? (i := 6) (by decide +kernel)) rfl rfl rfl rfl (Nat.le_of_ble_eq_true rfl) (ws' := mw am cI dg (mset m7 0 11 0)) (ms_obj 11 (by decide) (by decide) rfl) dX6_readPart_92 ?_
            refine z_gm2 (fun m14 hm14 => ?_)
            have xm14_0 : m14 0 10 = nI (P + 1) := by rw [hm14, mset_ne2 _ _ (by decide)]; exact xm7_0
            have xm14_1 : m14 0 5 = nI L := by rw [hm14, mset_ne2 _ _ (by decide)]; exact xm7_1
            have xm14_2 : m14 0 11 = 0 := by rw [hm14, mset_at]
            have xm14_3 : m14 3 (P + 1) = mem 3 (P + 1) := by rw [hm14, mset_ne _ _ _ (by omega)]; exact xm7_3
            subst c75
            refine z_aload_n E dX6_readPart_95 rfl 0 rfl ?_
            refine z_dup E dX6_readPart_96 rfl ?_
            refine z_get E 0 mw_obj (C := RX6) (T := TX6) (N := 16) rfl (fun _ h => List.mem_cons_of_mem _ (List.mem_append_right _ h)) 10 (by decide) (List.mem_of_getElem? (i := 2) (by decide +kernel)) rfl (v := .int (nI (P + 1))) (congrArg (fun z : Int32 => some (Value.int z)) xm14_0) dX6_readPart_97 ?_
            refine z_aload_n E dX6_readPart_100 rfl 0 rfl ?_
            refine z_get E 0 mw_obj (C := RX6) (T := TX6) (N := 16) rfl (fun _ h => List.mem_cons_of_mem _ (List.mem_append_right _ h)) 11 (by decide) (List.mem_of_getElem? (i := 6) (by decide +kernel)) rfl (v := .int 0) (congrArg (fun z : Int32 => some (Value.int z)) xm14_2) dX6_readPart_101 ?_
            refine z_if_eq_t (tgt := 111) E dX6_readPart_104 (by decide) (by decide) ?_
            refine z_iconst (v := 1) E dX6_readPart_111 (by decide) ?_
            refine z_iadd E dX6_readPart_112 ?_
            refine z_put E 0 mw_obj (C := RX6) (T := TX6) (N := 16) rfl (fun _ h => List.mem_cons_of_mem _ (List.mem_append_right _ h)) tyX6 tyX6_ok nmX6 10 (by decide) (List.mem_of_getElem? (i := 2) (by decide +kernel)) rfl rfl rfl rfl (Nat.le_of_ble_eq_true rfl) (ws' := mw am cI dg (mset m14 0 10 ((nI (P + 1)) + 1))) (ms_obj 10 (by decide) (by decide) rfl) dX6_readPart_113 ?_
            refine z_gm2 (fun m15 hm15 => ?_)
            have xm15_0 : m15 0 10 = (nI (P + 1)) + 1 := by rw [hm15, mset_at]
            have xm15_1 : m15 0 5 = nI L := by rw [hm15, mset_ne2 _ _ (by decide)]; exact xm14_1
            have xm15_2 : m15 0 11 = 0 := by rw [hm15, mset_ne2 _ _ (by decide)]; exact xm14_2
            have xm15_3 : m15 3 (P + 1) = mem 3 (P + 1) := by rw [hm15, mset_ne _ _ _ (by omega)]; exact xm14_3
            refine z_aload_n E dX6_readPart_116 rfl 0 rfl ?_
            refine z_get E 0 mw_obj (C := RX6) (T := TX6) (N := 16) rfl (fun _ h => List.mem_cons_of_mem _ (List.mem_append_right _ h)) 13 (by decide) (List.mem_of_getElem? (i := 5) (by decide +kernel)) rfl (v := .int 114) (congrArg (fun z : Int32 => some (Value.int z)) (show m15 0 13 = 114 from (by simp [hm15, hm14, hm7, hm6, mset]))) dX6_readPart_117 ?_
            refine z_bipush (v := 120) E dX6_readPart_120 (by decide) ?_
            refine z_icmp_eq_f (tgt := 183) E dX6_readPart_122 (by decide) (by decide) ?_
            refine z_aload_n E dX6_readPart_125 rfl 0 rfl ?_
            refine z_get E 0 mw_obj (C := RX6) (T := TX6) (N := 16) rfl (fun _ h => List.mem_cons_of_mem _ (List.mem_append_right _ h)) 11 (by decide) (List.mem_of_getElem? (i := 6) (by decide +kernel)) rfl (v := .int 0) (congrArg (fun z : Int32 => some (Value.int z)) xm15_2) dX6_readPart_126 ?_
            refine z_if_ne_f (tgt := 183) E dX6_readPart_129 (by decide) (by decide) ?_
            refine z_aload_n E dX6_readPart_132 rfl 0 rfl ?_
            refine z_aload_n E dX6_readPart_133 rfl 0 rfl ?_
            refine z_get E 0 mw_obj (C := RX6) (T := TX6) (N := 16) rfl (fun _ h => List.mem_cons_of_mem _ (List.mem_append_right _ h)) 13 (by decide) (List.mem_of_getElem? (i := 5) (by decide +kernel)) rfl (v := .int 114) (congrArg (fun z : Int32 => some (Value.int z)) (show m15 0 13 = 114 from (by simp [hm15, hm14, hm7, hm6, mset]))) dX6_readPart_134 ?_
            refine z_bipush (v := 111) E dX6_readPart_137 (by decide) ?_
            refine z_icmp_ne_t (tgt := 147) E dX6_readPart_139 (by decide) (by decide) ?_
            refine z_iconst (v := 0) E dX6_readPart_147 (by decide) ?_
            refine z_aload_n E dX6_readPart_148 rfl 0 rfl ?_
            refine z_get E 0 mw_obj (C := RX6) (T := TX6) (N := 16) rfl (fun _ h => List.mem_cons_of_mem _ (List.mem_append_right _ h)) 13 (by decide) (List.mem_of_getElem? (i := 5) (by decide +kernel)) rfl (v := .int 114) (congrArg (fun z : Int32 => some (Value.int z)) (show m15 0 13 = 114 from (by simp [hm15, hm14, hm7, hm6, mset]))) dX6_readPart_149 ?_
            refine z_bipush (v := 117) E dX6_readPart_152 (by decide) ?_
            refine z_icmp_ne_t (tgt := 162) E dX6_readPart_154 (by decide) (by decide) ?_
            refine z_aload_n E dX6_readPart_162 rfl 0 rfl ?_
            refine z_get E 0 mw_obj (C := RX6) (T := TX6) (N := 16) rfl (fun _ h => List.mem_cons_of_mem _ (List.mem_append_right _ h)) 13 (by decide) (List.mem_of_getElem? (i := 5) (by decide +kernel)) rfl (v := .int 114) (congrArg (fun z : Int32 => some (Value.int z)) (show m15 0 13 = 114 from (by simp [hm15, hm14, hm7, hm6, mset]))) dX6_readPart_163 ?_
            refine z_bipush (v := 111) E dX6_readPart_166 (by decide) ?_
            refine z_icmp_ne_t (tgt := 177) E dX6_readPart_168 (by decide) (by decide) ?_
            refine z_sipush (v := 200) E dX6_readPart_177 (by decide) ?_
            have hQL : P + 1 < L := zCh_lt hw0 (by decide)
            have zz : zRd mem m15 := by rw [hm15, hm14, hm7, hm6]; exact ((((zm1.fld (by omega) _).fld (by omega) _).fld (by omega) _).fld (by omega) _)
            have r10 : m15 0 10 = nI (P + 2) := xm15_0.trans (nI_1 (P + 1))
            have r11 : m15 0 11 = 0 := xm15_2
            have r12 : m15 0 12 = c0 - 48 := by simp [hm15, hm14, hm7, hm6, mset]
            have r13 : m15 0 13 = 114 := by simp [hm15, hm14, hm7, hm6, mset]
            refine z_callVv E hZ (k_readNumber l D am cI cR cS cL dg m15 (P := P + 2) (L := L) (by omega) hL r10 (by rw [zz.2 5 (by omega)]; exact hln) r11 0 200 (c0 := d0) (by rw [zCh_rd zz]; exact hd0)) gX6_readPart_X6_readNumber (n := 2) rfl rfl rfl (by decide +kernel) rfl ⟨(Nat.le_of_ble_eq_true rfl), (Nat.le_of_ble_eq_true rfl)⟩ (C := RX6) rfl 0 mw_obj (As := [.int 0, .int 200]) (rest := []) rfl (Nat.le_of_ble_eq_true rfl) ⟨(Nat.le_of_ble_eq_true rfl), (Nat.le_of_ble_eq_true rfl)⟩ dX6_readPart_180 (fun m16 hp => ?_)
            rw [zz.1 3 (by decide)] at hp
            exact z_vretM E hr hlocks (m16) rfl (by have hwv : w1 = 114 := hw1.symm.trans hw0; subst hwv; refine ⟨zz.trans hp.1, Or.inr (Or.inr ⟨hs, hQL, hp.2.1.trans r12, hp.2.2.1.trans r13, Or.inr ⟨Or.inr (Or.inr rfl), ?_⟩⟩)⟩; rw [show zLoW 114 = 0 by decide, show zHiW 114 = 200 by decide]; exact hp.2.2.2) (Nat.le_of_ble_eq_true rfl) (Nat.le_of_ble_eq_true rfl) dX6_readPart_183
          · skip
            refine z_aload_n E dX6_readPart_78 rfl 0 rfl ?_
            refine z_get E 0 mw_obj (C := RX6) (T := TX6) (N := 16) rfl (fun _ h => List.mem_cons_of_mem _ (List.mem_append_right _ h)) 13 (by decide) (List.mem_of_getElem? (i := 5) (by decide +kernel)) rfl (v := .int w0) (congrArg (fun z : Int32 => some (Value.int z)) (show m7 0 13 = w0 from (by simp [hm7, hm6, mset]))) dX6_readPart_79 ?_
            refine z_bipush (v := 120) E dX6_readPart_82 (by decide) ?_
            refine z_icmp_eq (tgt := 91) E dX6_readPart_84 (by decide) (fun c84 => ?_) (fun c84 => ?_)
            · skip
              refine z_iconst (v := 0) E dX6_readPart_91 (by decide) ?_
              refine z_put E 0 mw_obj (C := RX6) (T := TX6) (N := 16) rfl (fun _ h => List.mem_cons_of_mem _ (List.mem_append_right _ h)) tyX6 tyX6_ok nmX6 11 (by decide) (List.mem_of_getElem? (i := 6) (by decide +kernel)) rfl rfl rfl rfl (Nat.le_of_ble_eq_true rfl) (ws' := mw am cI dg (mset m7 0 11 0)) (ms_obj 11 (by decide) (by decide) rfl) dX6_readPart_92 ?_
              refine z_gm2 (fun m17 hm17 => ?_)
              have xm17_0 : m17 0 10 = nI (P + 1) := by rw [hm17, mset_ne2 _ _ (by decide)]; exact xm7_0
              have xm17_1 : m17 0 5 = nI L := by rw [hm17, mset_ne2 _ _ (by decide)]; exact xm7_1
              have xm17_2 : m17 0 11 = 0 := by rw [hm17, mset_at]
              have xm17_3 : m17 3 (P + 1) = mem 3 (P + 1) := by rw [hm17, mset_ne _ _ _ (by omega)]; exact xm7_3
              subst c84
              refine z_aload_n E dX6_readPart_95 rfl 0 rfl ?_
              refine z_dup E dX6_readPart_96 rfl ?_
              refine z_get E 0 mw_obj (C := RX6) (T := TX6) (N := 16) rfl (fun _ h => List.mem_cons_of_mem _ (List.mem_append_right _ h)) 10 (by decide) (List.mem_of_getElem? (i := 2) (by decide +kernel)) rfl (v := .int (nI (P + 1))) (congrArg (fun z : Int32 => some (Value.int z)) xm17_0) dX6_readPart_97 ?_
              refine z_aload_n E dX6_readPart_100 rfl 0 rfl ?_
              refine z_get E 0 mw_obj (C := RX6) (T := TX6) (N := 16) rfl (fun _ h => List.mem_cons_of_mem _ (List.mem_append_right _ h)) 11 (by decide) (List.mem_of_getElem? (i := 6) (by decide +kernel)) rfl (v := .int 0) (congrArg (fun z : Int32 => some (Value.int z)) xm17_2) dX6_readPart_101 ?_
              refine z_if_eq_t (tgt := 111) E dX6_readPart_104 (by decide) (by decide) ?_
              refine z_iconst (v := 1) E dX6_readPart_111 (by decide) ?_
              refine z_iadd E dX6_readPart_112 ?_
              refine z_put E 0 mw_obj (C := RX6) (T := TX6) (N := 16) rfl (fun _ h => List.mem_cons_of_mem _ (List.mem_append_right _ h)) tyX6 tyX6_ok nmX6 10 (by decide) (List.mem_of_getElem? (i := 2) (by decide +kernel)) rfl rfl rfl rfl (Nat.le_of_ble_eq_true rfl) (ws' := mw am cI dg (mset m17 0 10 ((nI (P + 1)) + 1))) (ms_obj 10 (by decide) (by decide) rfl) dX6_readPart_113 ?_
              refine z_gm2 (fun m18 hm18 => ?_)
              have xm18_0 : m18 0 10 = (nI (P + 1)) + 1 := by rw [hm18, mset_at]
              have xm18_1 : m18 0 5 = nI L := by rw [hm18, mset_ne2 _ _ (by decide)]; exact xm17_1
              have xm18_2 : m18 0 11 = 0 := by rw [hm18, mset_ne2 _ _ (by decide)]; exact xm17_2
              have xm18_3 : m18 3 (P + 1) = mem 3 (P + 1) := by rw [hm18, mset_ne _ _ _ (by omega)]; exact xm17_3
              refine z_aload_n E dX6_readPart_116 rfl 0 rfl ?_
              refine z_get E 0 mw_obj (C := RX6) (T := TX6) (N := 16) rfl (fun _ h => List.mem_cons_of_mem _ (List.mem_append_right _ h)) 13 (by decide) (List.mem_of_getElem? (i := 5) (by decide +kernel)) rfl (v := .int 120) (congrArg (fun z : Int32 => some (Value.int z)) (show m18 0 13 = 120 from (by simp [hm18, hm17, hm7, hm6, mset]))) dX6_readPart_117 ?_
              refine z_bipush (v := 120) E dX6_readPart_120 (by decide) ?_
              refine z_icmp_eq_t (tgt := 183) E dX6_readPart_122 (by decide) (by decide) ?_
              exact z_vretM E hr hlocks (m18) rfl (by have hwv : w1 = 120 := hw1.symm.trans hw0; subst hwv; exact ⟨by rw [hm18, hm17, hm7, hm6]; exact ((((zm1.fld (by omega) _).fld (by omega) _).fld (by omega) _).fld (by omega) _), Or.inr (Or.inr ⟨hs, zCh_lt hw0 (by decide), by simp [hm18, hm17, hm7, hm6, mset], by simp [hm18, hm17, hm7, hm6, mset], Or.inl ⟨rfl, xm18_2, (xm18_0).trans (nI_1 (P + 1))⟩⟩)⟩) (Nat.le_of_ble_eq_true rfl) (Nat.le_of_ble_eq_true rfl) dX6_readPart_183
            · skip
              refine z_iconst (v := 1) E dX6_readPart_87 (by decide) ?_
              refine z_goto (tgt := 92) E dX6_readPart_88 (by decide) ?_
              refine z_put E 0 mw_obj (C := RX6) (T := TX6) (N := 16) rfl (fun _ h => List.mem_cons_of_mem _ (List.mem_append_right _ h)) tyX6 tyX6_ok nmX6 11 (by decide) (List.mem_of_getElem? (i := 6) (by decide +kernel)) rfl rfl rfl rfl (Nat.le_of_ble_eq_true rfl) (ws' := mw am cI dg (mset m7 0 11 1)) (ms_obj 11 (by decide) (by decide) rfl) dX6_readPart_92 ?_
              refine z_gm2 (fun m19 hm19 => ?_)
              have xm19_0 : m19 0 10 = nI (P + 1) := by rw [hm19, mset_ne2 _ _ (by decide)]; exact xm7_0
              have xm19_1 : m19 0 5 = nI L := by rw [hm19, mset_ne2 _ _ (by decide)]; exact xm7_1
              have xm19_2 : m19 0 11 = 1 := by rw [hm19, mset_at]
              have xm19_3 : m19 3 (P + 1) = mem 3 (P + 1) := by rw [hm19, mset_ne _ _ _ (by omega)]; exact xm7_3
              refine z_aload_n E dX6_readPart_95 rfl 0 rfl ?_
              refine z_dup E dX6_readPart_96 rfl ?_
              refine z_get E 0 mw_obj (C := RX6) (T := TX6) (N := 16) rfl (fun _ h => List.mem_cons_of_mem _ (List.mem_append_right _ h)) 10 (by decide) (List.mem_of_getElem? (i := 2) (by decide +kernel)) rfl (v := .int (nI (P + 1))) (congrArg (fun z : Int32 => some (Value.int z)) xm19_0) dX6_readPart_97 ?_
              refine z_aload_n E dX6_readPart_100 rfl 0 rfl ?_
              refine z_get E 0 mw_obj (C := RX6) (T := TX6) (N := 16) rfl (fun _ h => List.mem_cons_of_mem _ (List.mem_append_right _ h)) 11 (by decide) (List.mem_of_getElem? (i := 6) (by decide +kernel)) rfl (v := .int 1) (congrArg (fun z : Int32 => some (Value.int z)) xm19_2) dX6_readPart_101 ?_
              refine z_if_eq_f (tgt := 111) E dX6_readPart_104 (by decide) (by decide) ?_
              refine z_iconst (v := 0) E dX6_readPart_107 (by decide) ?_
              refine z_goto (tgt := 112) E dX6_readPart_108 (by decide) ?_
              refine z_iadd E dX6_readPart_112 ?_
              refine z_put E 0 mw_obj (C := RX6) (T := TX6) (N := 16) rfl (fun _ h => List.mem_cons_of_mem _ (List.mem_append_right _ h)) tyX6 tyX6_ok nmX6 10 (by decide) (List.mem_of_getElem? (i := 2) (by decide +kernel)) rfl rfl rfl rfl (Nat.le_of_ble_eq_true rfl) (ws' := mw am cI dg (mset m19 0 10 ((nI (P + 1)) + 0))) (ms_obj 10 (by decide) (by decide) rfl) dX6_readPart_113 ?_
              refine z_gm2 (fun m20 hm20 => ?_)
              have xm20_0 : m20 0 10 = (nI (P + 1)) + 0 := by rw [hm20, mset_at]
              have xm20_1 : m20 0 5 = nI L := by rw [hm20, mset_ne2 _ _ (by decide)]; exact xm19_1
              have xm20_2 : m20 0 11 = 1 := by rw [hm20, mset_ne2 _ _ (by decide)]; exact xm19_2
              have xm20_3 : m20 3 (P + 1) = mem 3 (P + 1) := by rw [hm20, mset_ne _ _ _ (by omega)]; exact xm19_3
              refine z_aload_n E dX6_readPart_116 rfl 0 rfl ?_
              refine z_get E 0 mw_obj (C := RX6) (T := TX6) (N := 16) rfl (fun _ h => List.mem_cons_of_mem _ (List.mem_append_right _ h)) 13 (by decide) (List.mem_of_getElem? (i := 5) (by decide +kernel)) rfl (v := .int w0) (congrArg (fun z : Int32 => some (Value.int z)) (show m20 0 13 = w0 from (by simp [hm20, hm19, hm7, hm6, mset]))) dX6_readPart_117 ?_
              refine z_bipush (v := 120) E dX6_readPart_120 (by decide) ?_
              refine z_icmp_eq (tgt := 183) E dX6_readPart_122 (by decide) (fun c122 => ?_) (fun c122 => ?_)
              · skip
                exact z_vretM E hr hlocks (m20) rfl ⟨by rw [hm20, hm19, hm7, hm6]; exact ((((zm1.fld (by omega) _).fld (by omega) _).fld (by omega) _).fld (by omega) _), Or.inr (Or.inl ⟨hs, hPL, fun q => c57 ((hw0.symm.trans hw1).trans q), fun q => c66 ((hw0.symm.trans hw1).trans q), fun q => c75 ((hw0.symm.trans hw1).trans q), fun q => c84 ((hw0.symm.trans hw1).trans q), xm20_2, (xm20_0).trans (Int32.add_zero _)⟩)⟩ (Nat.le_of_ble_eq_true rfl) (Nat.le_of_ble_eq_true rfl) dX6_readPart_183
              · skip
                refine z_aload_n E dX6_readPart_125 rfl 0 rfl ?_
                refine z_get E 0 mw_obj (C := RX6) (T := TX6) (N := 16) rfl (fun _ h => List.mem_cons_of_mem _ (List.mem_append_right _ h)) 11 (by decide) (List.mem_of_getElem? (i := 6) (by decide +kernel)) rfl (v := .int 1) (congrArg (fun z : Int32 => some (Value.int z)) xm20_2) dX6_readPart_126 ?_
                refine z_if_ne_t (tgt := 183) E dX6_readPart_129 (by decide) (by decide) ?_
                exact z_vretM E hr hlocks (m20) rfl ⟨by rw [hm20, hm19, hm7, hm6]; exact ((((zm1.fld (by omega) _).fld (by omega) _).fld (by omega) _).fld (by omega) _), Or.inr (Or.inl ⟨hs, hPL, fun q => c57 ((hw0.symm.trans hw1).trans q), fun q => c66 ((hw0.symm.trans hw1).trans q), fun q => c75 ((hw0.symm.trans hw1).trans q), fun q => c84 ((hw0.symm.trans hw1).trans q), xm20_2, (xm20_0).trans (Int32.add_zero _)⟩)⟩ (Nat.le_of_ble_eq_true rfl) (Nat.le_of_ble_eq_true rfl) dX6_readPart_183
    · skip
      refine z_aload_n E dX6_readPart_16 rfl 0 rfl ?_
      refine z_get E 0 mw_obj (C := RX6) (T := TX6) (N := 16) rfl (fun _ h => List.mem_cons_of_mem _ (List.mem_append_right _ h)) 10 (by decide) (List.mem_of_getElem? (i := 2) (by decide +kernel)) rfl (v := .int (nI (P + 1))) (congrArg (fun z : Int32 => some (Value.int z)) xm6_0) dX6_readPart_17 ?_
      refine z_aload_n E dX6_readPart_20 rfl 0 rfl ?_
      refine z_get E 0 mw_obj (C := RX6) (T := TX6) (N := 16) rfl (fun _ h => List.mem_cons_of_mem _ (List.mem_append_right _ h)) 5 (by decide) (List.mem_of_getElem? (i := 3) (by decide +kernel)) rfl (v := .int (nI L)) (congrArg (fun z : Int32 => some (Value.int z)) xm6_1) dX6_readPart_21 ?_
      refine z_icmp_ge (tgt := 39) E dX6_readPart_24 (by decide) (fun c24 => ?_) (fun c24 => ?_)
      · skip
        refine z_iconst (v := 0) E dX6_readPart_39 (by decide) ?_
        exact J40 _ (if_neg (by have := (nI_leI (by omega) (by omega)).mp c24; omega)).symm
      · skip
        have hQ := zklt (k := P + 1) (L := L) (by omega) (by omega) c24
        refine z_aload_n E dX6_readPart_27 rfl 0 rfl ?_
        refine z_get E 0 mw_obj (C := RX6) (T := TX6) (N := 16) rfl (fun _ h => List.mem_cons_of_mem _ (List.mem_append_right _ h)) 4 (by decide) (List.mem_of_getElem? (i := 4) (by decide +kernel)) rfl (v := .ref (am 3)) rfl dX6_readPart_28 ?_
        refine z_aload_n E dX6_readPart_31 rfl 0 rfl ?_
        refine z_get E 0 mw_obj (C := RX6) (T := TX6) (N := 16) rfl (fun _ h => List.mem_cons_of_mem _ (List.mem_append_right _ h)) 10 (by decide) (List.mem_of_getElem? (i := 2) (by decide +kernel)) rfl (v := .int (nI (P + 1))) (congrArg (fun z : Int32 => some (Value.int z)) xm6_0) dX6_readPart_32 ?_
        refine z_iald E 3 0 mw_text rfl (vp_in_nI (by omega) (by decide)) (v := mem 3 (P + 1)) ((congrArg (m6 3) (nI_clamp (by omega))).trans xm6_3) dX6_readPart_35 ?_
        refine z_goto (tgt := 40) E dX6_readPart_36 (by decide) ?_
        exact J40 _ (if_pos hQ).symm
