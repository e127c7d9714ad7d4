/-! the reference's reader -/
/-- the character at P, 0 behind the end -/
def zCh (mem : zM) (P L : Nat) : Int32 := if P < L then mem 3 P else 0
/-- sign: one character that must lie from lo to hi -/
def sSign (mem : zM) (P L : Nat) (lo hi : Int32) : zM := if zCh mem P L < lo ∨ hi < zCh mem P L then mset mem 0 11 1 else mset mem 0 10 (nI (P + 1))
def fBg (v lo hi : Int32) : Int32 := if fIn v lo hi = 0 then (if hi < 10 * v then (if hi < 100 * v then 0 else if 100 * v + 99 < lo then 0 else 1) else if lo ≤ 10 * v + 9 then 1 else if hi < 100 * v then 0 else if 100 * v + 99 < lo then 0 else 1) else 1
set_option maxHeartbeats 1000000 in
set_option maxRecDepth 100000 in
theorem k_begins (l : Launch) (D : va_G) (am : Nat → Nat) (cI cR cS cL : ClassId) (dg : Int64) (mem : zM) (v lo hi : Int32) : zMi l yX6_begins wsX6_begins ({ frames := 1, cells := 0, slots := 0, locals := 22 }) D (cK cI cR cS cL) [.int v, .int lo, .int hi] (mw am cI dg mem) (fun r u => r = fBg v lo hi ∧ u = mem) (mw am cI dg) 0 0 := by
  refine zMiM.of (cc := cX6_begins) (maxL := 3) (ret := (some .boolean)) (by decide +kernel) rfl (lv0 := [(0, .int v), (1, .int lo), (2, .int hi)]) (Nat.le_of_ble_eq_true rfl) rfl ?_
  intro p e s m args below meth c E hZ hr hlocks hnm
  refine z_iload_n E dX6_begins_0 rfl 0 rfl ?_
  refine z_iload_n E dX6_begins_1 rfl 1 rfl ?_
  refine z_iload_n E dX6_begins_2 rfl 2 rfl ?_
  refine z_callSi E hZ (k_in l D am cI cR cS cL dg mem v lo hi) gX6_begins_X6_in (n := 3) rfl rfl rfl (by decide +kernel) rfl ⟨Nat.le_of_ble_eq_true rfl, Nat.le_of_ble_eq_true rfl⟩ (As := [.int v, .int lo, .int hi]) (rest := []) rfl (Nat.le_of_ble_eq_true rfl) ⟨Nat.le_of_ble_eq_true rfl, Nat.le_of_ble_eq_true rfl⟩ dX6_begins_3 (fun r u hp => ?_)
  rw [hp.1, hp.2]
  refine z_if_ne (tgt := 47) E dX6_begins_6 (by decide) (fun c6 => ?_) (fun c6 => ?_)
  · skip
    refine z_iconst (v := 1) E dX6_begins_47 (by decide) ?_
    refine z_goto (tgt := 52) E dX6_begins_48 (by decide) ?_
    exact z_izretM E hr hlocks (mem) rfl rfl ⟨((if_neg c6)).symm, rfl⟩ (Nat.le_of_ble_eq_true rfl) (Nat.le_of_ble_eq_true rfl) dX6_begins_52
  · skip
    refine z_bipush (v := 10) E dX6_begins_9 (by decide) ?_
    refine z_iload_n E dX6_begins_11 rfl 0 rfl ?_
    refine z_imul E dX6_begins_12 ?_
    refine z_iload_n E dX6_begins_13 rfl 2 rfl ?_
    refine z_icmp_gt (tgt := 28) E dX6_begins_14 (by decide) (fun c14 => ?_) (fun c14 => ?_)
    · skip
      refine z_bipush (v := 100) E dX6_begins_28 (by decide) ?_
      refine z_iload_n E dX6_begins_30 rfl 0 rfl ?_
      refine z_imul E dX6_begins_31 ?_
      refine z_iload_n E dX6_begins_32 rfl 2 rfl ?_
      refine z_icmp_gt (tgt := 51) E dX6_begins_33 (by decide) (fun c33 => ?_) (fun c33 => ?_)
      · skip
        refine z_iconst (v := 0) E dX6_begins_51 (by decide) ?_
        exact z_izretM E hr hlocks (mem) rfl rfl ⟨(((if_pos c6).trans ((if_pos c14).trans (if_pos c33)))).symm, rfl⟩ (Nat.le_of_ble_eq_true rfl) (Nat.le_of_ble_eq_true rfl) dX6_begins_52
      · skip
        refine z_bipush (v := 100) E dX6_begins_36 (by decide) ?_
        refine z_iload_n E dX6_begins_38 rfl 0 rfl ?_
        refine z_imul E dX6_begins_39 ?_
        refine z_bipush (v := 99) E dX6_begins_40 (by decide) ?_
        refine z_iadd E dX6_begins_42 ?_
        refine z_iload_n E dX6_begins_43 rfl 1 rfl ?_
        refine z_icmp_lt (tgt := 51) E dX6_begins_44 (by decide) (fun c44 => ?_) (fun c44 => ?_)
        · skip
          refine z_iconst (v := 0) E dX6_begins_51 (by decide) ?_
          exact z_izretM E hr hlocks (mem) rfl rfl ⟨(((if_pos c6).trans ((if_pos c14).trans ((if_neg c33).trans (if_pos c44))))).symm, rfl⟩ (Nat.le_of_ble_eq_true rfl) (Nat.le_of_ble_eq_true rfl) dX6_begins_52
        · skip
          refine z_iconst (v := 1) E dX6_begins_47 (by decide) ?_
          refine z_goto (tgt := 52) E dX6_begins_48 (by decide) ?_
          exact z_izretM E hr hlocks (mem) rfl rfl ⟨(((if_pos c6).trans ((if_pos c14).trans ((if_neg c33).trans (if_neg c44))))).symm, rfl⟩ (Nat.le_of_ble_eq_true rfl) (Nat.le_of_ble_eq_true rfl) dX6_begins_52
    · skip
      refine z_bipush (v := 10) E dX6_begins_17 (by decide) ?_
      refine z_iload_n E dX6_begins_19 rfl 0 rfl ?_
      refine z_imul E dX6_begins_20 ?_
      refine z_bipush (v := 9) E dX6_begins_21 (by decide) ?_
      refine z_iadd E dX6_begins_23 ?_
      refine z_iload_n E dX6_begins_24 rfl 1 rfl ?_
      refine z_icmp_ge (tgt := 47) E dX6_begins_25 (by decide) (fun c25 => ?_) (fun c25 => ?_)
      · skip
        refine z_iconst (v := 1) E dX6_begins_47 (by decide) ?_
        refine z_goto (tgt := 52) E dX6_begins_48 (by decide) ?_
        exact z_izretM E hr hlocks (mem) rfl rfl ⟨(((if_pos c6).trans ((if_neg c14).trans (if_pos c25)))).symm, rfl⟩ (Nat.le_of_ble_eq_true rfl) (Nat.le_of_ble_eq_true rfl) dX6_begins_52
      · skip
        refine z_bipush (v := 100) E dX6_begins_28 (by decide) ?_
        refine z_iload_n E dX6_begins_30 rfl 0 rfl ?_
        refine z_imul E dX6_begins_31 ?_
        refine z_iload_n E dX6_begins_32 rfl 2 rfl ?_
        refine z_icmp_gt (tgt := 51) E dX6_begins_33 (by decide) (fun c33 => ?_) (fun c33 => ?_)
        · skip
          refine z_iconst (v := 0) E dX6_begins_51 (by decide) ?_
          exact z_izretM E hr hlocks (mem) rfl rfl ⟨(((if_pos c6).trans ((if_neg c14).trans ((if_neg c25).trans (if_pos c33))))).symm, rfl⟩ (Nat.le_of_ble_eq_true rfl) (Nat.le_of_ble_eq_true rfl) dX6_begins_52
        · skip
          refine z_bipush (v := 100) E dX6_begins_36 (by decide) ?_
          refine z_iload_n E dX6_begins_38 rfl 0 rfl ?_
          refine z_imul E dX6_begins_39 ?_
          refine z_bipush (v := 99) E dX6_begins_40 (by decide) ?_
          refine z_iadd E dX6_begins_42 ?_
          refine z_iload_n E dX6_begins_43 rfl 1 rfl ?_
          refine z_icmp_lt (tgt := 51) E dX6_begins_44 (by decide) (fun c44 => ?_) (fun c44 => ?_)
          · skip
            refine z_iconst (v := 0) E dX6_begins_51 (by decide) ?_
            exact z_izretM E hr hlocks (mem) rfl rfl ⟨(((if_pos c6).trans ((if_neg c14).trans ((if_neg c25).trans ((if_neg c33).trans (if_pos c44)))))).symm, rfl⟩ (Nat.le_of_ble_eq_true rfl) (Nat.le_of_ble_eq_true rfl) dX6_begins_52
          · skip
            refine z_iconst (v := 1) E dX6_begins_47 (by decide) ?_
            refine z_goto (tgt := 52) E dX6_begins_48 (by decide) ?_
            exact z_izretM E hr hlocks (mem) rfl rfl ⟨(((if_pos c6).trans ((if_neg c14).trans ((if_neg c25).trans ((if_neg c33).trans (if_neg c44)))))).symm, rfl⟩ (Nat.le_of_ble_eq_true rfl) (Nat.le_of_ble_eq_true rfl) dX6_begins_52
set_option maxHeartbeats 1000000 in
set_option maxRecDepth 100000 in
theorem k_sign (l : Launch) (D : va_G) (am : Nat → Nat) (cI cR cS cL : ClassId) (dg : Int64) (mem : zM) {P L : Nat} (hPL0 : P ≤ L) (hL : L ≤ 60) (hpl : mem 0 10 = nI P) (hln : mem 0 5 = nI L) (hwr : mem 0 11 = 0) (lo hi : Int32) : zMi l yX6_sign wsX6_sign ({ frames := 1, cells := 0, slots := 0, locals := 22 }) D (cK cI cR cS cL) [.ref (am 0), .int lo, .int hi] (mw am cI dg mem) (fun r u => r = zCh mem P L ∧ u = sSign mem P L lo hi) (mw am cI dg) 0 0 := by
  refine zMiM.of (cc := cX6_sign) (maxL := 4) (ret := (some .int)) (by decide +kernel) rfl (lv0 := [(0, .ref (am 0)), (1, .int lo), (2, .int hi)]) (Nat.le_of_ble_eq_true rfl) rfl ?_
  intro p e s m args below meth c E hZ hr hlocks hnm
  obtain ⟨cv, hcv⟩ : ∃ v, mem 3 P = v := ⟨_, rfl⟩
  by_cases hPL : P < L
  · skip
    have hc : zCh mem P L = cv := (if_pos hPL).trans hcv
    refine z_aload_n E dX6_sign_0 rfl 0 rfl ?_
    refine z_get E 0 mw_obj (C := RX6) (T := TX6) (N := 16) rfl (fun _ h => List.mem_cons_of_mem _ (List.mem_append_right _ h)) 10 (by decide) (List.mem_of_getElem? (i := 1) (by decide +kernel)) rfl (v := .int (nI P)) (congrArg (fun z : Int32 => some (Value.int z)) hpl) dX6_sign_1 ?_
    refine z_aload_n E dX6_sign_4 rfl 0 rfl ?_
    refine z_get E 0 mw_obj (C := RX6) (T := TX6) (N := 16) rfl (fun _ h => List.mem_cons_of_mem _ (List.mem_append_right _ h)) 5 (by decide) (List.mem_of_getElem? (i := 2) (by decide +kernel)) rfl (v := .int (nI L)) (congrArg (fun z : Int32 => some (Value.int z)) hln) dX6_sign_5 ?_
    refine z_icmp_ge_f (tgt := 23) E dX6_sign_8 (by decide) (fun h => by have := (nI_leI (by omega) (by omega)).mp h; omega) ?_
    refine z_aload_n E dX6_sign_11 rfl 0 rfl ?_
    refine z_get E 0 mw_obj (C := RX6) (T := TX6) (N := 16) rfl (fun _ h => List.mem_cons_of_mem _ (List.mem_append_right _ h)) 4 (by decide) (List.mem_of_getElem? (i := 3) (by decide +kernel)) rfl (v := .ref (am 3)) rfl dX6_sign_12 ?_
    refine z_aload_n E dX6_sign_15 rfl 0 rfl ?_
    refine z_get E 0 mw_obj (C := RX6) (T := TX6) (N := 16) rfl (fun _ h => List.mem_cons_of_mem _ (List.mem_append_right _ h)) 10 (by decide) (List.mem_of_getElem? (i := 1) (by decide +kernel)) rfl (v := .int (nI P)) (congrArg (fun z : Int32 => some (Value.int z)) hpl) dX6_sign_16 ?_
    refine z_iald E 3 0 mw_text rfl (vp_in_nI (by omega) (by decide)) (v := cv) ((congrArg (mem 3) (nI_clamp (by omega))).trans hcv) dX6_sign_19 ?_
    refine z_goto (tgt := 24) E dX6_sign_20 (by decide) ?_
    refine z_istore_n (lv' := [(3, .int cv), (0, .ref (am 0)), (1, .int lo), (2, .int hi)]) E dX6_sign_24 rfl (by decide) rfl ?_
    refine z_aload_n E dX6_sign_25 rfl 1 rfl ?_
    refine z_aload_n E dX6_sign_26 rfl 1 rfl ?_
    refine z_get E 0 mw_obj (C := RX6) (T := TX6) (N := 16) rfl (fun _ h => List.mem_cons_of_mem _ (List.mem_append_right _ h)) 11 (by decide) (List.mem_of_getElem? (i := 4) (by decide +kernel)) rfl (v := .int 0) (congrArg (fun z : Int32 => some (Value.int z)) hwr) dX6_sign_27 ?_
    refine z_if_ne_f (tgt := 42) E dX6_sign_30 (by decide) (by decide) ?_
    refine z_iload_n E dX6_sign_33 rfl 0 rfl ?_
    refine z_iload_n E dX6_sign_34 rfl 2 rfl ?_
    refine z_iload_n E dX6_sign_35 rfl 3 rfl ?_
    refine z_callSi E hZ (k_in l D am cI cR cS cL dg mem cv lo hi) gX6_sign_X6_in (n := 3) rfl rfl rfl (by decide +kernel) rfl ⟨Nat.le_of_ble_eq_true rfl, Nat.le_of_ble_eq_true rfl⟩ (As := [.int cv, .int lo, .int hi]) (rest := [.ref (am 0)]) rfl (Nat.le_of_ble_eq_true rfl) ⟨Nat.le_of_ble_eq_true rfl, Nat.le_of_ble_eq_true rfl⟩ dX6_sign_36 (fun r u hp => ?_)
    rw [hp.1, hp.2]
    by_cases hin : cv < lo ∨ hi < cv
    · skip
      rw [fIn_0 hin]
      refine z_if_ne_f (tgt := 46) E dX6_sign_39 (by decide) (by decide) ?_
      refine z_iconst (v := 1) E dX6_sign_42 (by decide) ?_
      refine z_goto (tgt := 47) E dX6_sign_43 (by decide) ?_
      refine z_put E 0 mw_obj (C := RX6) (T := TX6) (N := 16) rfl (fun _ h => List.mem_cons_of_mem _ (List.mem_append_right _ h)) tyX6 tyX6_ok nmX6 11 (by decide) (List.mem_of_getElem? (i := 4) (by decide +kernel)) rfl rfl rfl rfl (Nat.le_of_ble_eq_true rfl) (ws' := mw am cI dg (mset mem 0 11 1)) (ms_obj 11 (by decide) (by decide) rfl) dX6_sign_47 ?_
      refine z_gm2 (fun m1 hm1 => ?_)
      have xm1_0 : m1 0 10 = nI P := by rw [hm1, mset_ne2 _ _ (by decide)]; exact hpl
      have xm1_1 : m1 0 5 = nI L := by rw [hm1, mset_ne2 _ _ (by decide)]; exact hln
      have xm1_2 : m1 0 11 = 1 := by rw [hm1, mset_at]
      have xm1_3 : m1 3 P = cv := by rw [hm1, mset_ne _ _ _ (by omega)]; exact hcv
      refine z_aload_n E dX6_sign_50 rfl 1 rfl ?_
      refine z_dup E dX6_sign_51 rfl ?_
      refine z_get E 0 mw_obj (C := RX6) (T := TX6) (N := 16) rfl (fun _ h => List.mem_cons_of_mem _ (List.mem_append_right _ h)) 10 (by decide) (List.mem_of_getElem? (i := 1) (by decide +kernel)) rfl (v := .int (nI P)) (congrArg (fun z : Int32 => some (Value.int z)) xm1_0) dX6_sign_52 ?_
      refine z_aload_n E dX6_sign_55 rfl 1 rfl ?_
      refine z_get E 0 mw_obj (C := RX6) (T := TX6) (N := 16) rfl (fun _ h => List.mem_cons_of_mem _ (List.mem_append_right _ h)) 11 (by decide) (List.mem_of_getElem? (i := 4) (by decide +kernel)) rfl (v := .int 1) (congrArg (fun z : Int32 => some (Value.int z)) xm1_2) dX6_sign_56 ?_
      refine z_if_eq_f (tgt := 66) E dX6_sign_59 (by decide) (by decide) ?_
      refine z_iconst (v := 0) E dX6_sign_62 (by decide) ?_
      refine z_goto (tgt := 67) E dX6_sign_63 (by decide) ?_
      refine z_iadd E dX6_sign_67 ?_
      refine z_put E 0 mw_obj (C := RX6) (T := TX6) (N := 16) rfl (fun _ h => List.mem_cons_of_mem _ (List.mem_append_right _ h)) tyX6 tyX6_ok nmX6 10 (by decide) (List.mem_of_getElem? (i := 1) (by decide +kernel)) rfl rfl rfl rfl (Nat.le_of_ble_eq_true rfl) (ws' := mw am cI dg (mset m1 0 10 ((nI P) + 0))) (ms_obj 10 (by decide) (by decide) rfl) dX6_sign_68 ?_
      refine z_gm2 (fun m2 hm2 => ?_)
      have xm2_0 : m2 0 10 = (nI P) + 0 := by rw [hm2, mset_at]
      have xm2_1 : m2 0 5 = nI L := by rw [hm2, mset_ne2 _ _ (by decide)]; exact xm1_1
      have xm2_2 : m2 0 11 = 1 := by rw [hm2, mset_ne2 _ _ (by decide)]; exact xm1_2
      have xm2_3 : m2 3 P = cv := by rw [hm2, mset_ne _ _ _ (by omega)]; exact xm1_3
      refine z_iload_n E dX6_sign_71 rfl 0 rfl ?_
      exact z_iretM E hr hlocks (m2) rfl ⟨hc.symm, by unfold sSign; rw [hc, if_pos hin, hm2, Int32.add_zero]; exact (mset_same (by rw [hm1, mset_ne2 _ _ (by decide)]; exact hpl)).trans hm1⟩ (Nat.le_of_ble_eq_true rfl) (Nat.le_of_ble_eq_true rfl) dX6_sign_72
    · skip
      rw [fIn_1 hin]
      refine z_if_ne_t (tgt := 46) E dX6_sign_39 (by decide) (by decide) ?_
      refine z_iconst (v := 0) E dX6_sign_46 (by decide) ?_
      refine z_put E 0 mw_obj (C := RX6) (T := TX6) (N := 16) rfl (fun _ h => List.mem_cons_of_mem _ (List.mem_append_right _ h)) tyX6 tyX6_ok nmX6 11 (by decide) (List.mem_of_getElem? (i := 4) (by decide +kernel)) rfl rfl rfl rfl (Nat.le_of_ble_eq_true rfl) (ws' := mw am cI dg (mset mem 0 11 0)) (ms_obj 11 (by decide) (by decide) rfl) dX6_sign_47 ?_
      refine z_gm2 (fun m3 hm3 => ?_)
      have xm3_0 : m3 0 10 = nI P := by rw [hm3, mset_ne2 _ _ (by decide)]; exact hpl
      have xm3_1 : m3 0 5 = nI L := by rw [hm3, mset_ne2 _ _ (by decide)]; exact hln
      have xm3_2 : m3 0 11 = 0 := by rw [hm3, mset_at]
      have xm3_3 : m3 3 P = cv := by rw [hm3, mset_ne _ _ _ (by omega)]; exact hcv
      refine z_aload_n E dX6_sign_50 rfl 1 rfl ?_
      refine z_dup E dX6_sign_51 rfl ?_
      refine z_get E 0 mw_obj (C := RX6) (T := TX6) (N := 16) rfl (fun _ h => List.mem_cons_of_mem _ (List.mem_append_right _ h)) 10 (by decide) (List.mem_of_getElem? (i := 1) (by decide +kernel)) rfl (v := .int (nI P)) (congrArg (fun z : Int32 => some (Value.int z)) xm3_0) dX6_sign_52 ?_
      refine z_aload_n E dX6_sign_55 rfl 1 rfl ?_
      refine z_get E 0 mw_obj (C := RX6) (T := TX6) (N := 16) rfl (fun _ h => List.mem_cons_of_mem _ (List.mem_append_right _ h)) 11 (by decide) (List.mem_of_getElem? (i := 4) (by decide +kernel)) rfl (v := .int 0) (congrArg (fun z : Int32 => some (Value.int z)) xm3_2) dX6_sign_56 ?_
      refine z_if_eq_t (tgt := 66) E dX6_sign_59 (by decide) (by decide) ?_
      refine z_iconst (v := 1) E dX6_sign_66 (by decide) ?_
      refine z_iadd E dX6_sign_67 ?_
      refine z_put E 0 mw_obj (C := RX6) (T := TX6) (N := 16) rfl (fun _ h => List.mem_cons_of_mem _ (List.mem_append_right _ h)) tyX6 tyX6_ok nmX6 10 (by decide) (List.mem_of_getElem? (i := 1) (by decide +kernel)) rfl rfl rfl rfl (Nat.le_of_ble_eq_true rfl) (ws' := mw am cI dg (mset m3 0 10 ((nI P) + 1))) (ms_obj 10 (by decide) (by decide) rfl) dX6_sign_68 ?_
      refine z_gm2 (fun m4 hm4 => ?_)
      have xm4_0 : m4 0 10 = (nI P) + 1 := by rw [hm4, mset_at]
      have xm4_1 : m4 0 5 = nI L := by rw [hm4, mset_ne2 _ _ (by decide)]; exact xm3_1
      have xm4_2 : m4 0 11 = 0 := by rw [hm4, mset_ne2 _ _ (by decide)]; exact xm3_2
      have xm4_3 : m4 3 P = cv := by rw [hm4, mset_ne _ _ _ (by omega)]; exact xm3_3
      refine z_iload_n E dX6_sign_71 rfl 0 rfl ?_
      exact z_iretM E hr hlocks (m4) rfl ⟨hc.symm, by unfold sSign; rw [hc, if_neg hin, hm4, hm3, mset_same hwr, nI_1]⟩ (Nat.le_of_ble_eq_true rfl) (Nat.le_of_ble_eq_true rfl) dX6_sign_72
  · skip
    have hc : zCh mem P L = 0 := if_neg hPL
    refine z_aload_n E dX6_sign_0 rfl 0 rfl ?_
    refine z_get E 0 mw_obj (C := RX6) (T := TX6) (N := 16) rfl (fun _ h => List.mem_cons_of_mem _ (List.mem_append_right _ h)) 10 (by decide) (List.mem_of_getElem? (i := 1) (by decide +kernel)) rfl (v := .int (nI P)) (congrArg (fun z : Int32 => some (Value.int z)) hpl) dX6_sign_1 ?_
    refine z_aload_n E dX6_sign_4 rfl 0 rfl ?_
    refine z_get E 0 mw_obj (C := RX6) (T := TX6) (N := 16) rfl (fun _ h => List.mem_cons_of_mem _ (List.mem_append_right _ h)) 5 (by decide) (List.mem_of_getElem? (i := 2) (by decide +kernel)) rfl (v := .int (nI L)) (congrArg (fun z : Int32 => some (Value.int z)) hln) dX6_sign_5 ?_
    refine z_icmp_ge_t (tgt := 23) E dX6_sign_8 (by decide) ((nI_leI (by omega) (by omega)).mpr (by omega)) ?_
    refine z_iconst (v := 0) E dX6_sign_23 (by decide) ?_
    refine z_istore_n (lv' := [(3, .int 0), (0, .ref (am 0)), (1, .int lo), (2, .int hi)]) E dX6_sign_24 rfl (by decide) rfl ?_
    refine z_aload_n E dX6_sign_25 rfl 1 rfl ?_
    refine z_aload_n E dX6_sign_26 rfl 1 rfl ?_
    refine z_get E 0 mw_obj (C := RX6) (T := TX6) (N := 16) rfl (fun _ h => List.mem_cons_of_mem _ (List.mem_append_right _ h)) 11 (by decide) (List.mem_of_getElem? (i := 4) (by decide +kernel)) rfl (v := .int 0) (congrArg (fun z : Int32 => some (Value.int z)) hwr) dX6_sign_27 ?_
    refine z_if_ne_f (tgt := 42) E dX6_sign_30 (by decide) (by decide) ?_
    refine z_iload_n E dX6_sign_33 rfl 0 rfl ?_
    refine z_iload_n E dX6_sign_34 rfl 2 rfl ?_
    refine z_iload_n E dX6_sign_35 rfl 3 rfl ?_
    refine z_callSi E hZ (k_in l D am cI cR cS cL dg mem 0 lo hi) gX6_sign_X6_in (n := 3) rfl rfl rfl (by decide +kernel) rfl ⟨Nat.le_of_ble_eq_true rfl, Nat.le_of_ble_eq_true rfl⟩ (As := [.int 0, .int lo, .int hi]) (rest := [.ref (am 0)]) rfl (Nat.le_of_ble_eq_true rfl) ⟨Nat.le_of_ble_eq_true rfl, Nat.le_of_ble_eq_true rfl⟩ dX6_sign_36 (fun r u hp => ?_)
    rw [hp.1, hp.2]
    by_cases hin : 0 < lo ∨ hi < 0
    · skip
      rw [fIn_0 hin]
      refine z_if_ne_f (tgt := 46) E dX6_sign_39 (by decide) (by decide) ?_
      refine z_iconst (v := 1) E dX6_sign_42 (by decide) ?_
      refine z_goto (tgt := 47) E dX6_sign_43 (by decide) ?_
      refine z_put E 0 mw_obj (C := RX6) (T := TX6) (N := 16) rfl (fun _ h => List.mem_cons_of_mem _ (List.mem_append_right _ h)) tyX6 tyX6_ok nmX6 11 (by decide) (List.mem_of_getElem? (i := 4) (by decide +kernel)) rfl rfl rfl rfl (Nat.le_of_ble_eq_true rfl) (ws' := mw am cI dg (mset mem 0 11 1)) (ms_obj 11 (by decide) (by decide) rfl) dX6_sign_47 ?_
      refine z_gm2 (fun m5 hm5 => ?_)
      have xm5_0 : m5 0 10 = nI P := by rw [hm5, mset_ne2 _ _ (by decide)]; exact hpl
      have xm5_1 : m5 0 5 = nI L := by rw [hm5, mset_ne2 _ _ (by decide)]; exact hln
      have xm5_2 : m5 0 11 = 1 := by rw [hm5, mset_at]
      have xm5_3 : m5 3 P = cv := by rw [hm5, mset_ne _ _ _ (by omega)]; exact hcv
      refine z_aload_n E dX6_sign_50 rfl 1 rfl ?_
      refine z_dup E dX6_sign_51 rfl ?_
      refine z_get E 0 mw_obj (C := RX6) (T := TX6) (N := 16) rfl (fun _ h => List.mem_cons_of_mem _ (List.mem_append_right _ h)) 10 (by decide) (List.mem_of_getElem? (i := 1) (by decide +kernel)) rfl (v := .int (nI P)) (congrArg (fun z : Int32 => some (Value.int z)) xm5_0) dX6_sign_52 ?_
      refine z_aload_n E dX6_sign_55 rfl 1 rfl ?_
      refine z_get E 0 mw_obj (C := RX6) (T := TX6) (N := 16) rfl (fun _ h => List.mem_cons_of_mem _ (List.mem_append_right _ h)) 11 (by decide) (List.mem_of_getElem? (i := 4) (by decide +kernel)) rfl (v := .int 1) (congrArg (fun z : Int32 => some (Value.int z)) xm5_2) dX6_sign_56 ?_
      refine z_if_eq_f (tgt := 66) E dX6_sign_59 (by decide) (by decide) ?_
      refine z_iconst (v := 0) E dX6_sign_62 (by decide) ?_
      refine z_goto (tgt := 67) E dX6_sign_63 (by decide) ?_
      refine z_iadd E dX6_sign_67 ?_
      refine z_put E 0 mw_obj (C := RX6) (T := TX6) (N := 16) rfl (fun _ h => List.mem_cons_of_mem _ (List.mem_append_right _ h)) tyX6 tyX6_ok nmX6 10 (by decide) (List.mem_of_getElem? (i := 1) (by decide +kernel)) rfl rfl rfl rfl (Nat.le_of_ble_eq_true rfl) (ws' := mw am cI dg (mset m5 0 10 ((nI P) + 0))) (ms_obj 10 (by decide) (by decide) rfl) dX6_sign_68 ?_
      refine z_gm2 (fun m6 hm6 => ?_)
      have xm6_0 : m6 0 10 = (nI P) + 0 := by rw [hm6, mset_at]
      have xm6_1 : m6 0 5 = nI L := by rw [hm6, mset_ne2 _ _ (by decide)]; exact xm5_1
      have xm6_2 : m6 0 11 = 1 := by rw [hm6, mset_ne2 _ _ (by decide)]; exact xm5_2
      have xm6_3 : m6 3 P = cv := by rw [hm6, mset_ne _ _ _ (by omega)]; exact xm5_3
      refine z_iload_n E dX6_sign_71 rfl 0 rfl ?_
      exact z_iretM E hr hlocks (m6) rfl ⟨hc.symm, by unfold sSign; rw [hc, if_pos hin, hm6, Int32.add_zero]; exact (mset_same (by rw [hm5, mset_ne2 _ _ (by decide)]; exact hpl)).trans hm5⟩ (Nat.le_of_ble_eq_true rfl) (Nat.le_of_ble_eq_true rfl) dX6_sign_72
    · skip
      rw [fIn_1 hin]
      refine z_if_ne_t (tgt := 46) E dX6_sign_39 (by decide) (by decide) ?_
      refine z_iconst (v := 0) E dX6_sign_46 (by decide) ?_
      refine z_put E 0 mw_obj (C := RX6) (T := TX6) (N := 16) rfl (fun _ h => List.mem_cons_of_mem _ (List.mem_append_right _ h)) tyX6 tyX6_ok nmX6 11 (by decide) (List.mem_of_getElem? (i := 4) (by decide +kernel)) rfl rfl rfl rfl (Nat.le_of_ble_eq_true rfl) (ws' := mw am cI dg (mset mem 0 11 0)) (ms_obj 11 (by decide) (by decide) rfl) dX6_sign_47 ?_
      refine z_gm2 (fun m7 hm7 => ?_)
      have xm7_0 : m7 0 10 = nI P := by rw [hm7, mset_ne2 _ _ (by decide)]; exact hpl
      have xm7_1 : m7 0 5 = nI L := by rw [hm7, mset_ne2 _ _ (by decide)]; exact hln
      have xm7_2 : m7 0 11 = 0 := by rw [hm7, mset_at]
      have xm7_3 : m7 3 P = cv := by rw [hm7, mset_ne _ _ _ (by omega)]; exact hcv
      refine z_aload_n E dX6_sign_50 rfl 1 rfl ?_
      refine z_dup E dX6_sign_51 rfl ?_
      refine z_get E 0 mw_obj (C := RX6) (T := TX6) (N := 16) rfl (fun _ h => List.mem_cons_of_mem _ (List.mem_append_right _ h)) 10 (by decide) (List.mem_of_getElem? (i := 1) (by decide +kernel)) rfl (v := .int (nI P)) (congrArg (fun z : Int32 => some (Value.int z)) xm7_0) dX6_sign_52 ?_
      refine z_aload_n E dX6_sign_55 rfl 1 rfl ?_
      refine z_get E 0 mw_obj (C := RX6) (T := TX6) (N := 16) rfl (fun _ h => List.mem_cons_of_mem _ (List.mem_append_right _ h)) 11 (by decide) (List.mem_of_getElem? (i := 4) (by decide +kernel)) rfl (v := .int 0) (congrArg (fun z : Int32 => some (Value.int z)) xm7_2) dX6_sign_56 ?_
      refine z_if_eq_t (tgt := 66) E dX6_sign_59 (by decide) (by decide) ?_
      refine z_iconst (v := 1) E dX6_sign_66 (by decide) ?_
      refine z_iadd E dX6_sign_67 ?_
      refine z_put E 0 mw_obj (C := RX6) (T := TX6) (N := 16) rfl (fun _ h => List.mem_cons_of_mem _ (List.mem_append_right _ h)) tyX6 tyX6_ok nmX6 10 (by decide) (List.mem_of_getElem? (i := 1) (by decide +kernel)) rfl rfl rfl rfl (Nat.le_of_ble_eq_true rfl) (ws' := mw am cI dg (mset m7 0 10 ((nI P) + 1))) (ms_obj 10 (by decide) (by decide) rfl) dX6_sign_68 ?_
      refine z_gm2 (fun m8 hm8 => ?_)
      have xm8_0 : m8 0 10 = (nI P) + 1 := by rw [hm8, mset_at]
      have xm8_1 : m8 0 5 = nI L := by rw [hm8, mset_ne2 _ _ (by decide)]; exact xm7_1
      have xm8_2 : m8 0 11 = 0 := by rw [hm8, mset_ne2 _ _ (by decide)]; exact xm7_2
      have xm8_3 : m8 3 P = cv := by rw [hm8, mset_ne _ _ _ (by omega)]; exact xm7_3
      refine z_iload_n E dX6_sign_71 rfl 0 rfl ?_
      exact z_iretM E hr hlocks (m8) rfl ⟨hc.symm, by unfold sSign; rw [hc, if_neg hin, hm8, hm7, mset_same hwr, nI_1]⟩ (Nat.le_of_ble_eq_true rfl) (Nat.le_of_ble_eq_true rfl) dX6_sign_72
