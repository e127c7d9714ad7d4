/-! the reference's reader: readNumber -/
def zLo (lo : Int32) : Int32 := if lo ≤ 0 then 48 else 49
theorem zLo_pos (lo : Int32) : (0 : Int32) < zLo lo := by
  unfold zLo
  split <;> decide
set_option maxHeartbeats 1000000 in
set_option maxRecDepth 100000 in
theorem k_readNumber (l : Launch) (D : va_G) (am : Nat → Nat) (cI cR cS cL : ClassId) (dg : Int64) (mem : zM) {P L : Nat} (hPL0 : P ≤ L) (hL : L ≤ 60) (hpl : mem 0 10 = nI P) (hln : mem 0 5 = nI L) (hwr : mem 0 11 = 0) (lo hi : Int32) {c0 : Int32} (hc0 : zCh mem P L = c0) : zMv l yX6_readNumber wsX6_readNumber ({ frames := 3, cells := 0, slots := 0, locals := 67 }) D (cK cI cR cS cL) [.ref (am 0), .int lo, .int hi] (mw am cI dg mem) (fun u => zRd mem u ∧ u 0 12 = mem 0 12 ∧ u 0 13 = mem 0 13 ∧ (((c0 < zLo lo ∨ 57 < c0) ∧ u 0 11 = 1 ∧ u 0 10 = nI P) ∨ ((¬ (c0 < zLo lo ∨ 57 < c0)) ∧ u 0 10 = nI (mDig (mem 3) L lo hi (L - (P + 1)) (P + 1) (c0 - 48)).1 ∧ u 0 14 = (mDig (mem 3) L lo hi (L - (P + 1)) (P + 1) (c0 - 48)).2 ∧ u 0 11 = (if (mDig (mem 3) L lo hi (L - (P + 1)) (P + 1) (c0 - 48)).2 < lo ∨ hi < (mDig (mem 3) L lo hi (L - (P + 1)) (P + 1) (c0 - 48)).2 then 1 else 0)))) (mw am cI dg) 0 0 := by
  refine zMvM.of (cc := cX6_readNumber) (maxL := 3) (ret := none) (by decide +kernel) rfl (lv0 := [(0, .ref (am 0)), (1, .int lo), (2, .int hi)]) (Nat.le_of_ble_eq_true rfl) rfl ?_
  intro p e s m args below meth c E hZ hr hlocks hnm
  refine z_aload_n E dX6_readNumber_0 rfl 0 rfl ?_
  refine z_aload_n E dX6_readNumber_1 rfl 0 rfl ?_
  refine z_join (fun v13 => v13 = zLo lo) (pc2 := 13) (c2 := 0) (s2 := 0) (lv2 := (fun _ => [(0, .ref (am 0)), (1, .int lo), (2, .int hi)])) (st2 := (fun v13 => [.int v13, .ref (am 0), .ref (am 0)])) (fun v13 hv13 => ?_) (fun J13 => ?_)
  · subst hv13
    refine z_bipush (v := 57) E dX6_readNumber_13 (by decide) ?_
    refine z_callVi E hZ (k_sign l D am cI cR cS cL dg mem hPL0 hL hpl hln hwr (zLo lo) 57) gX6_readNumber_X6_sign (n := 2) rfl rfl rfl (by decide +kernel) rfl ⟨(Nat.le_of_ble_eq_true rfl), (Nat.le_of_ble_eq_true rfl)⟩ (C := RX6) rfl 0 mw_obj (As := [.int (zLo lo), .int 57]) (rest := [.ref (am 0)]) rfl (Nat.le_of_ble_eq_true rfl) ⟨(Nat.le_of_ble_eq_true rfl), (Nat.le_of_ble_eq_true rfl)⟩ dX6_readNumber_15 (fun r u hp => ?_)
    rw [hp.1, hp.2, hc0]
    refine z_gm2 (fun m1 hm1 => ?_)
    have zm1 : zRd mem m1 := by rw [hm1]; exact zRd_sign _ _ _ _ _
    by_cases hs : c0 < zLo lo ∨ 57 < c0
    · skip
      have hb : m1 = mset mem 0 11 1 := by rw [hm1]; unfold sSign; rw [hc0]; exact if_pos hs
      refine z_bipush (v := 48) E dX6_readNumber_18 (by decide) ?_
      refine z_isub E dX6_readNumber_20 ?_
      refine z_put E 0 mw_obj (C := RX6) (T := TX6) (N := 16) rfl (fun _ h => List.mem_cons_of_mem _ (List.mem_append_right _ h)) tyX6 tyX6_ok nmX6 14 (by decide) (List.mem_of_getElem? (i := 1) (by decide +kernel)) rfl rfl rfl rfl (Nat.le_of_ble_eq_true rfl) (ws' := mw am cI dg (mset m1 0 14 (c0 - 48))) (ms_obj 14 (by decide) (by decide) rfl) dX6_readNumber_21 ?_
      refine z_gm2 (fun m2 hm2 => ?_)
      have hw1 : m2 0 11 = 1 := by rw [hm2, mset_ne2 _ _ (by decide), hb, mset_at]
      refine z_aload_n E dX6_readNumber_24 rfl 0 rfl ?_
      refine z_iload_n E dX6_readNumber_25 rfl 1 rfl ?_
      refine z_iload_n E dX6_readNumber_26 rfl 2 rfl ?_
      refine z_callVi E hZ (k_goesOnW l D am cI cR cS cL dg m2 hw1 lo hi) gX6_readNumber_X6_goesOn (n := 2) rfl rfl rfl (by decide +kernel) rfl ⟨(Nat.le_of_ble_eq_true rfl), (Nat.le_of_ble_eq_true rfl)⟩ (C := RX6) rfl 0 mw_obj (As := [.int lo, .int hi]) (rest := []) rfl (Nat.le_of_ble_eq_true rfl) ⟨(Nat.le_of_ble_eq_true rfl), (Nat.le_of_ble_eq_true rfl)⟩ dX6_readNumber_27 (fun r u hp => ?_)
      rw [hp.1, hp.2]
      refine z_if_eq_t (tgt := 70) E dX6_readNumber_30 (by decide) (by decide) ?_
      refine z_aload_n E dX6_readNumber_70 rfl 0 rfl ?_
      refine z_aload_n E dX6_readNumber_71 rfl 0 rfl ?_
      refine z_get E 0 mw_obj (C := RX6) (T := TX6) (N := 16) rfl (fun _ h => List.mem_cons_of_mem _ (List.mem_append_right _ h)) 11 (by decide) (List.mem_of_getElem? (i := 4) (by decide +kernel)) rfl (v := .int 1) (congrArg (fun z : Int32 => some (Value.int z)) hw1) dX6_readNumber_72 ?_
      refine z_if_ne_t (tgt := 90) E dX6_readNumber_75 (by decide) (by decide) ?_
      refine z_iconst (v := 1) E dX6_readNumber_90 (by decide) ?_
      refine z_goto (tgt := 95) E dX6_readNumber_91 (by decide) ?_
      refine z_put E 0 mw_obj (C := RX6) (T := TX6) (N := 16) rfl (fun _ h => List.mem_cons_of_mem _ (List.mem_append_right _ h)) tyX6 tyX6_ok nmX6 11 (by decide) (List.mem_of_getElem? (i := 4) (by decide +kernel)) rfl rfl rfl rfl (Nat.le_of_ble_eq_true rfl) (ws' := mw am cI dg (mset m2 0 11 1)) (ms_obj 11 (by decide) (by decide) rfl) dX6_readNumber_95 ?_
      refine z_gm2 (fun m3 hm3 => ?_)
      have xm3_0 : m3 0 11 = 1 := by rw [hm3, mset_at]
      exact z_vretM E hr hlocks (m3) rfl ⟨by rw [hm3, hm2]; exact (zm1.fld (by omega) _).fld (by omega) _, by rw [hm3, hm2, hb, mset_ne2 _ _ (by decide), mset_ne2 _ _ (by decide), mset_ne2 _ _ (by decide)], by rw [hm3, hm2, hb, mset_ne2 _ _ (by decide), mset_ne2 _ _ (by decide), mset_ne2 _ _ (by decide)], Or.inl ⟨hs, by rw [hm3, mset_at], by rw [hm3, hm2, hb, mset_ne2 _ _ (by decide), mset_ne2 _ _ (by decide), mset_ne2 _ _ (by decide)]; exact hpl⟩⟩ (Nat.le_of_ble_eq_true rfl) (Nat.le_of_ble_eq_true rfl) dX6_readNumber_98
    · skip
      have hb : m1 = mset mem 0 10 (nI (P + 1)) := by rw [hm1]; unfold sSign; rw [hc0]; exact if_neg hs
      refine z_bipush (v := 48) E dX6_readNumber_18 (by decide) ?_
      refine z_isub E dX6_readNumber_20 ?_
      refine z_put E 0 mw_obj (C := RX6) (T := TX6) (N := 16) rfl (fun _ h => List.mem_cons_of_mem _ (List.mem_append_right _ h)) tyX6 tyX6_ok nmX6 14 (by decide) (List.mem_of_getElem? (i := 1) (by decide +kernel)) rfl rfl rfl rfl (Nat.le_of_ble_eq_true rfl) (ws' := mw am cI dg (mset m1 0 14 (c0 - 48))) (ms_obj 14 (by decide) (by decide) rfl) dX6_readNumber_21 ?_
      refine z_gm2 (fun m4 hm4 => ?_)
      have hPL : P < L := Decidable.byContradiction (fun q => hs (Or.inl (by rw [← hc0, show zCh mem P L = 0 from if_neg q]; exact zLo_pos lo)))
      refine z_loop (σ := zM × Nat × Int32) (fun n y => y.2.1 + n = L ∧ zRd mem y.1 ∧ y.1 0 10 = nI y.2.1 ∧ y.1 0 14 = y.2.2 ∧ y.1 0 11 = 0 ∧ (y.1 0 12 = mem 0 12 ∧ y.1 0 13 = mem 0 13) ∧ mDig (mem 3) L lo hi (L - (P + 1)) (P + 1) (c0 - 48) = mDig (mem 3) L lo hi n y.2.1 y.2.2) (fun y => mw am cI dg y.1) (fun _ => [(0, .ref (am 0)), (1, .int lo), (2, .int hi)]) 24 0 0 ?_ (L - (P + 1)) (m4, P + 1, c0 - 48) ⟨by show P + 1 + (L - (P + 1)) = L; omega, by show zRd mem m4; rw [hm4]; exact zm1.fld (by omega) _, by show m4 0 10 = _; rw [hm4, mset_ne2 _ _ (by decide), hb, mset_at], by show m4 0 14 = _; rw [hm4, mset_at], by show m4 0 11 = 0; rw [hm4, mset_ne2 _ _ (by decide), hb, mset_ne2 _ _ (by decide)]; exact hwr, by show m4 0 12 = _ ∧ m4 0 13 = _; rw [hm4, mset_ne2 _ _ (by decide), mset_ne2 _ _ (by decide), hb, mset_ne2 _ _ (by decide), mset_ne2 _ _ (by decide)]; exact ⟨rfl, rfl⟩, rfl⟩ rfl rfl rfl rfl rfl
      rintro n ⟨m, P1, N⟩ ⟨hPn, zr, i10, i14, i11, i12, hD⟩ ih
      dsimp only at hPn zr i10 i14 i11 i12 hD ⊢
      have i5 : m 0 5 = nI L := by rw [zr.2 5 (by omega)]; exact hln
      have i3 : m 3 P1 = mem 3 P1 := by rw [zr.1 3 (by decide)]
      refine z_aload_n E dX6_readNumber_24 rfl 0 rfl ?_
      refine z_iload_n E dX6_readNumber_25 rfl 1 rfl ?_
      refine z_iload_n E dX6_readNumber_26 rfl 2 rfl ?_
      refine z_callVi E hZ (k_goesOn l D am cI cR cS cL dg m (P := P1) (L := L) (by omega) hL i10 i5 i11 i14 lo hi) gX6_readNumber_X6_goesOn (n := 2) rfl rfl rfl (by decide +kernel) rfl ⟨(Nat.le_of_ble_eq_true rfl), (Nat.le_of_ble_eq_true rfl)⟩ (C := RX6) rfl 0 mw_obj (As := [.int lo, .int hi]) (rest := []) rfl (Nat.le_of_ble_eq_true rfl) ⟨(Nat.le_of_ble_eq_true rfl), (Nat.le_of_ble_eq_true rfl)⟩ dX6_readNumber_27 (fun r u hp => ?_)
      rw [hp.1, hp.2]
      have hfe : fGo m P1 L N lo hi = (if P1 < L then (if mem 3 P1 < 48 ∨ 57 < mem 3 P1 then (0 : Int32) else if N ≤ 0 then 0 else if fBg (10 * N + mem 3 P1 - 48) lo hi = 0 then 0 else 1) else 0) := by unfold fGo; rw [zr.1 3 (by decide)]
      have hlt := @fGo_lt m P1 L N lo hi
      generalize fGo m P1 L N lo hi = fg at hfe hlt ⊢
      refine z_if_eq (tgt := 70) E dX6_readNumber_30 (by decide) (fun c30 => ?_) (fun c30 => ?_)
      · skip
        refine z_aload_n E dX6_readNumber_70 rfl 0 rfl ?_
        refine z_aload_n E dX6_readNumber_71 rfl 0 rfl ?_
        refine z_get E 0 mw_obj (C := RX6) (T := TX6) (N := 16) rfl (fun _ h => List.mem_cons_of_mem _ (List.mem_append_right _ h)) 11 (by decide) (List.mem_of_getElem? (i := 4) (by decide +kernel)) rfl (v := .int 0) (congrArg (fun z : Int32 => some (Value.int z)) i11) dX6_readNumber_72 ?_
        refine z_if_ne_f (tgt := 90) E dX6_readNumber_75 (by decide) (by decide) ?_
        refine z_aload_n E dX6_readNumber_78 rfl 0 rfl ?_
        refine z_get E 0 mw_obj (C := RX6) (T := TX6) (N := 16) rfl (fun _ h => List.mem_cons_of_mem _ (List.mem_append_right _ h)) 14 (by decide) (List.mem_of_getElem? (i := 1) (by decide +kernel)) rfl (v := .int N) (congrArg (fun z : Int32 => some (Value.int z)) i14) dX6_readNumber_79 ?_
        refine z_iload_n E dX6_readNumber_82 rfl 1 rfl ?_
        refine z_iload_n E dX6_readNumber_83 rfl 2 rfl ?_
        refine z_callSi E hZ (k_in l D am cI cR cS cL dg m N lo hi) gX6_readNumber_X6_in (n := 3) rfl rfl rfl (by decide +kernel) rfl ⟨Nat.le_of_ble_eq_true rfl, Nat.le_of_ble_eq_true rfl⟩ (As := [.int N, .int lo, .int hi]) (rest := [.ref (am 0)]) rfl (Nat.le_of_ble_eq_true rfl) ⟨Nat.le_of_ble_eq_true rfl, Nat.le_of_ble_eq_true rfl⟩ dX6_readNumber_84 (fun r u hp => ?_)
        rw [hp.1, hp.2]
        by_cases hnn : N < lo ∨ hi < N
        · skip
          rw [fIn_0 hnn]
          refine z_if_ne_f (tgt := 94) E dX6_readNumber_87 (by decide) (by decide) ?_
          refine z_iconst (v := 1) E dX6_readNumber_90 (by decide) ?_
          refine z_goto (tgt := 95) E dX6_readNumber_91 (by decide) ?_
          refine z_put E 0 mw_obj (C := RX6) (T := TX6) (N := 16) rfl (fun _ h => List.mem_cons_of_mem _ (List.mem_append_right _ h)) tyX6 tyX6_ok nmX6 11 (by decide) (List.mem_of_getElem? (i := 4) (by decide +kernel)) rfl rfl rfl rfl (Nat.le_of_ble_eq_true rfl) (ws' := mw am cI dg (mset m 0 11 1)) (ms_obj 11 (by decide) (by decide) rfl) dX6_readNumber_95 ?_
          refine z_gm2 (fun m5 hm5 => ?_)
          have xm5_0 : m5 0 10 = nI P1 := by rw [hm5, mset_ne2 _ _ (by decide)]; exact i10
          have xm5_1 : m5 0 14 = N := by rw [hm5, mset_ne2 _ _ (by decide)]; exact i14
          have xm5_2 : m5 0 11 = 1 := by rw [hm5, mset_at]
          have xm5_3 : m5 3 P1 = mem 3 P1 := by rw [hm5, mset_ne _ _ _ (by omega)]; exact i3
          exact z_vretM E hr hlocks (m5) rfl ⟨by rw [hm5]; exact zr.fld (by omega) _, by rw [hm5, mset_ne2 _ _ (by decide)]; exact i12.1, by rw [hm5, mset_ne2 _ _ (by decide)]; exact i12.2, Or.inr ⟨hs, by rw [(hD.trans (show mDig (mem 3) L lo hi n P1 N = (P1, N) by cases n; rw [mDig]; exact (mDig_s _ _ _ _ _ _ _).trans (if_pos (hfe.symm.trans c30)))), hm5, mset_ne2 _ _ (by decide)]; exact i10, by rw [(hD.trans (show mDig (mem 3) L lo hi n P1 N = (P1, N) by cases n; rw [mDig]; exact (mDig_s _ _ _ _ _ _ _).trans (if_pos (hfe.symm.trans c30)))), hm5, mset_ne2 _ _ (by decide)]; exact i14, by rw [(hD.trans (show mDig (mem 3) L lo hi n P1 N = (P1, N) by cases n; rw [mDig]; exact (mDig_s _ _ _ _ _ _ _).trans (if_pos (hfe.symm.trans c30)))), hm5, mset_at]; exact (if_pos hnn).symm⟩⟩ (Nat.le_of_ble_eq_true rfl) (Nat.le_of_ble_eq_true rfl) dX6_readNumber_98
        · skip
          rw [fIn_1 hnn]
          refine z_if_ne_t (tgt := 94) E dX6_readNumber_87 (by decide) (by decide) ?_
          refine z_iconst (v := 0) E dX6_readNumber_94 (by decide) ?_
          refine z_put E 0 mw_obj (C := RX6) (T := TX6) (N := 16) rfl (fun _ h => List.mem_cons_of_mem _ (List.mem_append_right _ h)) tyX6 tyX6_ok nmX6 11 (by decide) (List.mem_of_getElem? (i := 4) (by decide +kernel)) rfl rfl rfl rfl (Nat.le_of_ble_eq_true rfl) (ws' := mw am cI dg (mset m 0 11 0)) (ms_obj 11 (by decide) (by decide) rfl) dX6_readNumber_95 ?_
          refine z_gm2 (fun m6 hm6 => ?_)
          have xm6_0 : m6 0 10 = nI P1 := by rw [hm6, mset_ne2 _ _ (by decide)]; exact i10
          have xm6_1 : m6 0 14 = N := by rw [hm6, mset_ne2 _ _ (by decide)]; exact i14
          have xm6_2 : m6 0 11 = 0 := by rw [hm6, mset_at]
          have xm6_3 : m6 3 P1 = mem 3 P1 := by rw [hm6, mset_ne _ _ _ (by omega)]; exact i3
          exact z_vretM E hr hlocks (m6) rfl ⟨by rw [hm6]; exact zr.fld (by omega) _, by rw [hm6, mset_ne2 _ _ (by decide)]; exact i12.1, by rw [hm6, mset_ne2 _ _ (by decide)]; exact i12.2, Or.inr ⟨hs, by rw [(hD.trans (show mDig (mem 3) L lo hi n P1 N = (P1, N) by cases n; rw [mDig]; exact (mDig_s _ _ _ _ _ _ _).trans (if_pos (hfe.symm.trans c30)))), hm6, mset_ne2 _ _ (by decide)]; exact i10, by rw [(hD.trans (show mDig (mem 3) L lo hi n P1 N = (P1, N) by cases n; rw [mDig]; exact (mDig_s _ _ _ _ _ _ _).trans (if_pos (hfe.symm.trans c30)))), hm6, mset_ne2 _ _ (by decide)]; exact i14, by rw [(hD.trans (show mDig (mem 3) L lo hi n P1 N = (P1, N) by cases n; rw [mDig]; exact (mDig_s _ _ _ _ _ _ _).trans (if_pos (hfe.symm.trans c30)))), hm6, mset_at]; exact (if_neg hnn).symm⟩⟩ (Nat.le_of_ble_eq_true rfl) (Nat.le_of_ble_eq_true rfl) dX6_readNumber_98
      · skip
        have hlt1 := hlt c30
        obtain ⟨n, rfl⟩ : ∃ n1, n = n1 + 1 := ⟨n - 1, by omega⟩
        refine z_aload_n E dX6_readNumber_33 rfl 0 rfl ?_
        refine z_bipush (v := 10) E dX6_readNumber_34 (by decide) ?_
        refine z_aload_n E dX6_readNumber_36 rfl 0 rfl ?_
        refine z_get E 0 mw_obj (C := RX6) (T := TX6) (N := 16) rfl (fun _ h => List.mem_cons_of_mem _ (List.mem_append_right _ h)) 14 (by decide) (List.mem_of_getElem? (i := 1) (by decide +kernel)) rfl (v := .int N) (congrArg (fun z : Int32 => some (Value.int z)) i14) dX6_readNumber_37 ?_
        refine z_imul E dX6_readNumber_40 ?_
        refine z_aload_n E dX6_readNumber_41 rfl 0 rfl ?_
        refine z_get E 0 mw_obj (C := RX6) (T := TX6) (N := 16) rfl (fun _ h => List.mem_cons_of_mem _ (List.mem_append_right _ h)) 4 (by decide) (List.mem_of_getElem? (i := 2) (by decide +kernel)) rfl (v := .ref (am 3)) rfl dX6_readNumber_42 ?_
        refine z_aload_n E dX6_readNumber_45 rfl 0 rfl ?_
        refine z_get E 0 mw_obj (C := RX6) (T := TX6) (N := 16) rfl (fun _ h => List.mem_cons_of_mem _ (List.mem_append_right _ h)) 10 (by decide) (List.mem_of_getElem? (i := 3) (by decide +kernel)) rfl (v := .int (nI P1)) (congrArg (fun z : Int32 => some (Value.int z)) i10) dX6_readNumber_46 ?_
        refine z_iald E 3 0 mw_text rfl (vp_in_nI (by omega) (by decide)) (v := mem 3 P1) ((congrArg (m 3) (nI_clamp (by omega))).trans i3) dX6_readNumber_49 ?_
        refine z_iadd E dX6_readNumber_50 ?_
        refine z_bipush (v := 48) E dX6_readNumber_51 (by decide) ?_
        refine z_isub E dX6_readNumber_53 ?_
        refine z_put E 0 mw_obj (C := RX6) (T := TX6) (N := 16) rfl (fun _ h => List.mem_cons_of_mem _ (List.mem_append_right _ h)) tyX6 tyX6_ok nmX6 14 (by decide) (List.mem_of_getElem? (i := 1) (by decide +kernel)) rfl rfl rfl rfl (Nat.le_of_ble_eq_true rfl) (ws' := mw am cI dg (mset m 0 14 (((10 * N) + (mem 3 P1)) - 48))) (ms_obj 14 (by decide) (by decide) rfl) dX6_readNumber_54 ?_
        refine z_gm2 (fun m7 hm7 => ?_)
        have xm7_0 : m7 0 10 = nI P1 := by rw [hm7, mset_ne2 _ _ (by decide)]; exact i10
        have xm7_1 : m7 0 14 = ((10 * N) + (mem 3 P1)) - 48 := by rw [hm7, mset_at]
        have xm7_2 : m7 0 11 = 0 := by rw [hm7, mset_ne2 _ _ (by decide)]; exact i11
        have xm7_3 : m7 3 P1 = mem 3 P1 := by rw [hm7, mset_ne _ _ _ (by omega)]; exact i3
        refine z_aload_n E dX6_readNumber_57 rfl 0 rfl ?_
        refine z_dup E dX6_readNumber_58 rfl ?_
        refine z_get E 0 mw_obj (C := RX6) (T := TX6) (N := 16) rfl (fun _ h => List.mem_cons_of_mem _ (List.mem_append_right _ h)) 10 (by decide) (List.mem_of_getElem? (i := 3) (by decide +kernel)) rfl (v := .int (nI P1)) (congrArg (fun z : Int32 => some (Value.int z)) xm7_0) dX6_readNumber_59 ?_
        refine z_iconst (v := 1) E dX6_readNumber_62 (by decide) ?_
        refine z_iadd E dX6_readNumber_63 ?_
        refine z_put E 0 mw_obj (C := RX6) (T := TX6) (N := 16) rfl (fun _ h => List.mem_cons_of_mem _ (List.mem_append_right _ h)) tyX6 tyX6_ok nmX6 10 (by decide) (List.mem_of_getElem? (i := 3) (by decide +kernel)) rfl rfl rfl rfl (Nat.le_of_ble_eq_true rfl) (ws' := mw am cI dg (mset m7 0 10 ((nI P1) + 1))) (ms_obj 10 (by decide) (by decide) rfl) dX6_readNumber_64 ?_
        refine z_gm2 (fun m8 hm8 => ?_)
        have xm8_0 : m8 0 10 = (nI P1) + 1 := by rw [hm8, mset_at]
        have xm8_1 : m8 0 14 = ((10 * N) + (mem 3 P1)) - 48 := by rw [hm8, mset_ne2 _ _ (by decide)]; exact xm7_1
        have xm8_2 : m8 0 11 = 0 := by rw [hm8, mset_ne2 _ _ (by decide)]; exact xm7_2
        have xm8_3 : m8 3 P1 = mem 3 P1 := by rw [hm8, mset_ne _ _ _ (by omega)]; exact xm7_3
        refine z_goto (tgt := 24) E dX6_readNumber_67 (by decide) ?_
        exact ih n (m8, P1 + 1, 10 * N + mem 3 P1 - 48) (by omega) ⟨by show P1 + 1 + n = L; omega, by rw [hm8, hm7]; exact (zr.fld (by omega) _).fld (by omega) _, by show m8 0 10 = nI (P1 + 1); rw [hm8, mset_at, nI_1], by show m8 0 14 = _; rw [hm8, mset_ne2 _ _ (by decide), hm7, mset_at], by show m8 0 11 = 0; rw [hm8, mset_ne2 _ _ (by decide), hm7, mset_ne2 _ _ (by decide)]; exact i11, by show m8 0 12 = mem 0 12 ∧ m8 0 13 = mem 0 13; rw [hm8, mset_ne2 _ _ (by decide), mset_ne2 _ _ (by decide), hm7, mset_ne2 _ _ (by decide), mset_ne2 _ _ (by decide)]; exact i12, hD.trans ((mDig_s _ _ _ _ _ _ _).trans (if_neg (fun q => c30 (hfe.trans q))))⟩
  · skip
    refine z_iload_n E dX6_readNumber_2 rfl 1 rfl ?_
    refine z_if_le (tgt := 11) E dX6_readNumber_3 (by decide) (fun c3 => ?_) (fun c3 => ?_)
    · skip
      refine z_bipush (v := 48) E dX6_readNumber_11 (by decide) ?_
      exact J13 _ (if_pos c3).symm
    · skip
      refine z_bipush (v := 49) E dX6_readNumber_6 (by decide) ?_
      refine z_goto (tgt := 13) E dX6_readNumber_8 (by decide) ?_
      exact J13 _ (if_neg c3).symm
