/-! the reference: what is saved -/
/-- the saved rows, one more -/
def mSv (mem : zM) (z : Nat) : Nat → Int32 := fun j => if z < 6 then (if 58 * z ≤ j ∧ j < 58 * z + 58 then mem 1 (j - 58 * z) else mem 2 j) else if j < 290 then mem 2 (j + 58) else if j < 348 then mem 1 (j - 290) else mem 2 j
/-- row j of the memory is r -/
theorem zrow {m : zM} {i : Nat} {f : Nat → Int32} (h : m i = f) (k : Nat) : m i k = f k := congrFun h k
set_option maxHeartbeats 1000000 in
set_option maxRecDepth 100000 in
theorem k_msave1 (l : Launch) (D : va_G) (am : Nat → Nat) (cI cR cS cL : ClassId) (dg : Int64) (mem : zM) {zz : Nat} (hz6 : zz < 6) (hzz : mem 0 3 = nI zz) : zMv l yX6_save wsX6_save ({ frames := 0, cells := 0, slots := 0, locals := 0 }) D (cK cI cR cS cL) [.ref (am 0)] (mw am cI dg mem) (fun u => u 1 = mem 1 ∧ u 3 = mem 3 ∧ u 0 = upd (mem 0) 3 (nI (if zz < 6 then zz + 1 else 6)) ∧ u 2 = mSv mem zz) (mw am cI dg) 0 0 := by
  refine zMvM.of (cc := cX6_save) (maxL := 2) (ret := none) (by decide +kernel) rfl (lv0 := [(0, .ref (am 0))]) (Nat.le_of_ble_eq_true rfl) rfl ?_
  intro p e s m args below meth c E hZ hr hlocks hnm
  refine z_aload_n E dX6_save_0 rfl 0 rfl ?_
  refine z_get E 0 mw_obj (C := RX6) (T := TX6) (N := 16) rfl (fun _ h => List.mem_cons_of_mem _ (List.mem_append_right _ h)) 3 (by decide) (List.mem_of_getElem? (i := 1) (by decide +kernel)) rfl (v := .int (nI zz)) (congrArg (fun z : Int32 => some (Value.int z)) hzz) dX6_save_1 ?_
  refine z_bipush (v := 6) E dX6_save_4 (by decide) ?_
  refine z_icmp_ne_t (tgt := 49) E dX6_save_6 (by decide) (fun h => by have := (nI_eq (a := zz) (b := 6) (by omega) (by omega)).mp h; omega) ?_
  refine z_iconst (v := 0) E dX6_save_49 (by decide) ?_
  refine z_istore_n (lv' := [(1, .int 0), (0, .ref (am 0))]) E dX6_save_50 rfl (by decide) rfl ?_
  refine z_loop (σ := zM × Nat) (fun n y => y.2 + n = 58 ∧ y.1 0 = mem 0 ∧ y.1 1 = mem 1 ∧ y.1 3 = mem 3 ∧ ∀ j, y.1 2 j = if 58 * zz ≤ j ∧ j < 58 * zz + y.2 then mem 1 (j - 58 * zz) else mem 2 j) (fun y => mw am cI dg y.1) (fun y => [(1, .int (nI y.2)), (0, .ref (am 0))]) 51 0 0 ?_ 58 (mem, 0) ⟨rfl, rfl, rfl, rfl, fun j => (if_neg (by show ¬ (58 * zz ≤ j ∧ j < 58 * zz + 0); omega)).symm⟩ rfl rfl rfl rfl rfl
  rintro n2 ⟨m, i2⟩ ⟨hin2, d0, d1, d3, d2⟩ ih
  dsimp only at hin2 d0 d1 d3 d2 ⊢
  have hz2 : m 0 3 = nI zz := by rw [d0]; exact hzz
  refine z_iload_n E dX6_save_51 rfl 0 rfl ?_
  refine z_bipush (v := 58) E dX6_save_52 (by decide) ?_
  refine z_icmp_ge (tgt := 83) E dX6_save_54 (by decide) (fun c54 => ?_) (fun c54 => ?_)
  · skip
    refine z_aload_n E dX6_save_83 rfl 1 rfl ?_
    refine z_dup E dX6_save_84 rfl ?_
    refine z_get E 0 mw_obj (C := RX6) (T := TX6) (N := 16) rfl (fun _ h => List.mem_cons_of_mem _ (List.mem_append_right _ h)) 3 (by decide) (List.mem_of_getElem? (i := 1) (by decide +kernel)) rfl (v := .int (nI zz)) (congrArg (fun z : Int32 => some (Value.int z)) hz2) dX6_save_85 ?_
    refine z_iconst (v := 1) E dX6_save_88 (by decide) ?_
    refine z_iadd E dX6_save_89 ?_
    refine z_put E 0 mw_obj (C := RX6) (T := TX6) (N := 16) rfl (fun _ h => List.mem_cons_of_mem _ (List.mem_append_right _ h)) tyX6 tyX6_ok nmX6 3 (by decide) (List.mem_of_getElem? (i := 1) (by decide +kernel)) rfl rfl rfl rfl (Nat.le_of_ble_eq_true rfl) (ws' := mw am cI dg (mset m 0 3 ((nI zz) + 1))) (ms_obj 3 (by decide) (by decide) rfl) dX6_save_90 ?_
    refine z_gm2 (fun m1 hm1 => ?_)
    have xm1_0 : m1 0 3 = (nI zz) + 1 := by rw [hm1, mset_at]
    exact z_vretM E hr hlocks (m1) rfl ⟨by rw [hm1, mset_ne _ _ _ (by decide)]; exact d1, by rw [hm1, mset_ne _ _ _ (by decide)]; exact d3, by rw [hm1, mset_self, d0, if_pos hz6, nI_1], by rw [hm1, mset_ne _ _ _ (by decide)]; funext j; rw [d2, (show i2 = 58 by have := (nI_leI (a := 58) (b := i2) (by omega) (by omega)).mp c54; omega)]; unfold mSv; rw [if_pos hz6]⟩ (Nat.le_of_ble_eq_true rfl) (Nat.le_of_ble_eq_true rfl) dX6_save_93
  · skip
    obtain ⟨n2, rfl⟩ : ∃ n1, n2 = n1 + 1 := ⟨n2 - 1, by have := zklt (k := i2) (L := 58) (by omega) (by omega) c54; omega⟩
    refine z_aload_n E dX6_save_57 rfl 1 rfl ?_
    refine z_get E 0 mw_obj (C := RX6) (T := TX6) (N := 16) rfl (fun _ h => List.mem_cons_of_mem _ (List.mem_append_right _ h)) 2 (by decide) (List.mem_of_getElem? (i := 2) (by decide +kernel)) rfl (v := .ref (am 2)) rfl dX6_save_58 ?_
    refine z_bipush (v := 58) E dX6_save_61 (by decide) ?_
    refine z_aload_n E dX6_save_63 rfl 1 rfl ?_
    refine z_get E 0 mw_obj (C := RX6) (T := TX6) (N := 16) rfl (fun _ h => List.mem_cons_of_mem _ (List.mem_append_right _ h)) 3 (by decide) (List.mem_of_getElem? (i := 1) (by decide +kernel)) rfl (v := .int (nI zz)) (congrArg (fun z : Int32 => some (Value.int z)) hz2) dX6_save_64 ?_
    refine z_imul E dX6_save_67 ?_
    refine z_iload_n E dX6_save_68 rfl 0 rfl ?_
    refine z_iadd E dX6_save_69 ?_
    rw [show (58 * (nI zz)) + (nI i2) = nI (58 * zz + i2) by rw [show (58 : Int32) = nI 58 from rfl, pk_mul, nI_add]]
    refine z_aload_n E dX6_save_70 rfl 1 rfl ?_
    refine z_get E 0 mw_obj (C := RX6) (T := TX6) (N := 16) rfl (fun _ h => List.mem_cons_of_mem _ (List.mem_append_right _ h)) 1 (by decide) (List.mem_of_getElem? (i := 3) (by decide +kernel)) rfl (v := .ref (am 1)) rfl dX6_save_71 ?_
    refine z_iload_n E dX6_save_74 rfl 0 rfl ?_
    refine z_iald E 1 0 mw_s rfl (vp_in_nI (by omega) (by decide)) (v := m 1 i2) ((congrArg (m 1) (nI_clamp (by omega))).trans rfl) dX6_save_75 ?_
    refine z_iast E 2 0 mw_saved rfl (vp_in_nI (by omega) (by decide)) (ws' := mw am cI dg (mset m 2 (58 * zz + i2) (m 1 i2))) (by rw [nI_clamp (by omega)]; exact (ms_saved (58 * zz + i2) (m 1 i2))) dX6_save_76 ?_
    refine z_gm2 (fun m2 hm2 => ?_)
    have xm2_0 : m2 0 3 = nI zz := by rw [hm2, mset_ne _ _ _ (by omega)]; exact hz2
    refine z_iinc (v := nI i2 + 1) (lv' := [(1, .int (nI i2 + 1)), (0, .ref (am 0))]) E dX6_save_77 (q := 0) rfl rfl (by decide) rfl ?_
    refine z_goto (tgt := 51) E dX6_save_80 (by decide) ?_
    refine z_eq (ws' := mw am cI dg m2) (lv' := [(1, .int (nI (i2 + 1))), (0, .ref (am 0))]) (st' := []) rfl (by rw [← nI_1 i2]) rfl ?_
    refine ih n2 (m2, i2 + 1) (by omega) ⟨by show i2 + 1 + n2 = 58; omega, by show m2 0 = _; rw [hm2, mset_ne _ _ _ (by decide)]; exact d0, by show m2 1 = _; rw [hm2, mset_ne _ _ _ (by decide)]; exact d1, by show m2 3 = _; rw [hm2, mset_ne _ _ _ (by decide)]; exact d3, fun j => ?_⟩
    show m2 2 j = if 58 * zz ≤ j ∧ j < 58 * zz + (i2 + 1) then _ else _
    rw [hm2]
    by_cases hj : j = 58 * zz + i2
    · rw [hj, mset_at, if_pos (by omega), show 58 * zz + i2 - 58 * zz = i2 by omega, d1]
    · rw [mset_ne2 _ _ hj, d2]
      by_cases hl : 58 * zz ≤ j ∧ j < 58 * zz + i2
      · rw [if_pos hl, if_pos (by omega)]
      · rw [if_neg hl, if_neg (by omega)]
set_option maxHeartbeats 1000000 in
set_option maxRecDepth 100000 in
theorem k_msave2 (l : Launch) (D : va_G) (am : Nat → Nat) (cI cR cS cL : ClassId) (dg : Int64) (mem : zM) (hz : mem 0 3 = 6) : zMv l yX6_save wsX6_save ({ frames := 0, cells := 0, slots := 0, locals := 0 }) D (cK cI cR cS cL) [.ref (am 0)] (mw am cI dg mem) (fun u => u 1 = mem 1 ∧ u 3 = mem 3 ∧ u 0 = upd (mem 0) 3 (nI (if 6 < 6 then 6 + 1 else 6)) ∧ u 2 = mSv mem 6) (mw am cI dg) 0 0 := by
  refine zMvM.of (cc := cX6_save) (maxL := 2) (ret := none) (by decide +kernel) rfl (lv0 := [(0, .ref (am 0))]) (Nat.le_of_ble_eq_true rfl) rfl ?_
  intro p e s m args below meth c E hZ hr hlocks hnm
  refine z_aload_n E dX6_save_0 rfl 0 rfl ?_
  refine z_get E 0 mw_obj (C := RX6) (T := TX6) (N := 16) rfl (fun _ h => List.mem_cons_of_mem _ (List.mem_append_right _ h)) 3 (by decide) (List.mem_of_getElem? (i := 1) (by decide +kernel)) rfl (v := .int 6) (congrArg (fun z : Int32 => some (Value.int z)) hz) dX6_save_1 ?_
  refine z_bipush (v := 6) E dX6_save_4 (by decide) ?_
  refine z_icmp_ne_f (tgt := 49) E dX6_save_6 (by decide) (by decide) ?_
  refine z_iconst (v := 0) E dX6_save_9 (by decide) ?_
  refine z_istore_n (lv' := [(1, .int 0), (0, .ref (am 0))]) E dX6_save_10 rfl (by decide) rfl ?_
  refine z_loop (σ := zM × Nat) (fun n y => y.2 + n = 290 ∧ y.1 0 = mem 0 ∧ y.1 1 = mem 1 ∧ y.1 3 = mem 3 ∧ ∀ j, y.1 2 j = if j < y.2 then mem 2 (j + 58) else mem 2 j) (fun y => mw am cI dg y.1) (fun y => [(1, .int (nI y.2)), (0, .ref (am 0))]) 11 0 0 ?_ 290 (mem, 0) ⟨rfl, rfl, rfl, rfl, fun j => (if_neg (Nat.not_lt_zero j)).symm⟩ rfl rfl rfl rfl rfl
  rintro n ⟨m, i⟩ ⟨hin, e0, e1, e3, e2⟩ ih
  dsimp only at hin e0 e1 e3 e2 ⊢
  have hz0 : m 0 3 = 6 := by rw [e0]; exact hz
  refine z_iload_n E dX6_save_11 rfl 0 rfl ?_
  refine z_sipush (v := 290) E dX6_save_12 (by decide) ?_
  refine z_icmp_ge (tgt := 39) E dX6_save_15 (by decide) (fun c15 => ?_) (fun c15 => ?_)
  · skip
    have hi290 : i = 290 := by have := (nI_leI (a := 290) (b := i) (by omega) (by omega)).mp c15; omega
    refine z_aload_n E dX6_save_39 rfl 1 rfl ?_
    refine z_dup E dX6_save_40 rfl ?_
    refine z_get E 0 mw_obj (C := RX6) (T := TX6) (N := 16) rfl (fun _ h => List.mem_cons_of_mem _ (List.mem_append_right _ h)) 3 (by decide) (List.mem_of_getElem? (i := 1) (by decide +kernel)) rfl (v := .int 6) (congrArg (fun z : Int32 => some (Value.int z)) hz0) dX6_save_41 ?_
    refine z_iconst (v := 1) E dX6_save_44 (by decide) ?_
    refine z_isubV (v := 5) E dX6_save_45 (by decide) ?_
    refine z_put E 0 mw_obj (C := RX6) (T := TX6) (N := 16) rfl (fun _ h => List.mem_cons_of_mem _ (List.mem_append_right _ h)) tyX6 tyX6_ok nmX6 3 (by decide) (List.mem_of_getElem? (i := 1) (by decide +kernel)) rfl rfl rfl rfl (Nat.le_of_ble_eq_true rfl) (ws' := mw am cI dg (mset m 0 3 5)) (ms_obj 3 (by decide) (by decide) rfl) dX6_save_46 ?_
    refine z_gm2 (fun m1 hm1 => ?_)
    have xm1_0 : m1 0 3 = 5 := by rw [hm1, mset_at]
    obtain ⟨zz, hzz5⟩ : ∃ zz, zz = 5 := ⟨_, rfl⟩
    have hzz : m1 0 3 = nI zz := by rw [hm1, mset_at, hzz5]; rfl
    refine z_iconst (v := 0) E dX6_save_49 (by decide) ?_
    refine z_istore_n (lv' := [(1, .int 0), (0, .ref (am 0))]) E dX6_save_50 rfl (by decide) rfl ?_
    refine z_loop (σ := zM × Nat) (fun n y => y.2 + n = 58 ∧ y.1 0 = m1 0 ∧ y.1 1 = m1 1 ∧ y.1 3 = m1 3 ∧ ∀ j, y.1 2 j = if 58 * zz ≤ j ∧ j < 58 * zz + y.2 then m1 1 (j - 58 * zz) else m1 2 j) (fun y => mw am cI dg y.1) (fun y => [(1, .int (nI y.2)), (0, .ref (am 0))]) 51 0 0 ?_ 58 (m1, 0) ⟨rfl, rfl, rfl, rfl, fun j => (if_neg (by show ¬ (58 * zz ≤ j ∧ j < 58 * zz + 0); omega)).symm⟩ rfl rfl rfl rfl rfl
    rintro n2 ⟨m, i2⟩ ⟨hin2, d0, d1, d3, d2⟩ ih
    dsimp only at hin2 d0 d1 d3 d2 ⊢
    have hz2 : m 0 3 = nI zz := by rw [d0]; exact hzz
    refine z_iload_n E dX6_save_51 rfl 0 rfl ?_
    refine z_bipush (v := 58) E dX6_save_52 (by decide) ?_
    refine z_icmp_ge (tgt := 83) E dX6_save_54 (by decide) (fun c54 => ?_) (fun c54 => ?_)
    · skip
      refine z_aload_n E dX6_save_83 rfl 1 rfl ?_
      refine z_dup E dX6_save_84 rfl ?_
      refine z_get E 0 mw_obj (C := RX6) (T := TX6) (N := 16) rfl (fun _ h => List.mem_cons_of_mem _ (List.mem_append_right _ h)) 3 (by decide) (List.mem_of_getElem? (i := 1) (by decide +kernel)) rfl (v := .int (nI zz)) (congrArg (fun z : Int32 => some (Value.int z)) hz2) dX6_save_85 ?_
      refine z_iconst (v := 1) E dX6_save_88 (by decide) ?_
      refine z_iadd E dX6_save_89 ?_
      refine z_put E 0 mw_obj (C := RX6) (T := TX6) (N := 16) rfl (fun _ h => List.mem_cons_of_mem _ (List.mem_append_right _ h)) tyX6 tyX6_ok nmX6 3 (by decide) (List.mem_of_getElem? (i := 1) (by decide +kernel)) rfl rfl rfl rfl (Nat.le_of_ble_eq_true rfl) (ws' := mw am cI dg (mset m 0 3 ((nI zz) + 1))) (ms_obj 3 (by decide) (by decide) rfl) dX6_save_90 ?_
      refine z_gm2 (fun m2 hm2 => ?_)
      have xm2_0 : m2 0 3 = (nI zz) + 1 := by rw [hm2, mset_at]
      have hi58 : i2 = 58 := by have := (nI_leI (a := 58) (b := i2) (by omega) (by omega)).mp c54; omega
      have hu2 : m2 2 = mSv mem 6 := by
        rw [hm2, mset_ne _ _ _ (by decide)]
        funext j
        rw [d2, hi58, hm1, mset_ne _ _ _ (by decide), mset_ne _ _ _ (by decide), e1, e2, hi290, hzz5]
        rw [show mSv mem 6 j = (if j < 290 then mem 2 (j + 58) else if j < 348 then mem 1 (j - 290) else mem 2 j) from if_neg (by omega)]
        by_cases j1 : 290 ≤ j ∧ j < 348
        · rw [if_pos (show 58 * 5 ≤ j ∧ j < 58 * 5 + 58 by omega), if_neg (show ¬ j < 290 by omega), if_pos (show j < 348 by omega)]
        · rw [if_neg (show ¬ (58 * 5 ≤ j ∧ j < 58 * 5 + 58) by omega)]
          by_cases j2 : j < 290
          · rw [if_pos j2, if_pos j2]
          · rw [if_neg j2, if_neg j2, if_neg (show ¬ j < 348 by omega)]
      exact z_vretM E hr hlocks (m2) rfl ⟨by rw [hm2, mset_ne _ _ _ (by decide), d1, hm1, mset_ne _ _ _ (by decide)]; exact e1, by rw [hm2, mset_ne _ _ _ (by decide), d3, hm1, mset_ne _ _ _ (by decide)]; exact e3, by rw [hm2, mset_self, d0, hm1, mset_self, e0, upd_upd, hzz5]; rfl, hu2⟩ (Nat.le_of_ble_eq_true rfl) (Nat.le_of_ble_eq_true rfl) dX6_save_93
    · skip
      obtain ⟨n2, rfl⟩ : ∃ n1, n2 = n1 + 1 := ⟨n2 - 1, by have := zklt (k := i2) (L := 58) (by omega) (by omega) c54; omega⟩
      refine z_aload_n E dX6_save_57 rfl 1 rfl ?_
      refine z_get E 0 mw_obj (C := RX6) (T := TX6) (N := 16) rfl (fun _ h => List.mem_cons_of_mem _ (List.mem_append_right _ h)) 2 (by decide) (List.mem_of_getElem? (i := 2) (by decide +kernel)) rfl (v := .ref (am 2)) rfl dX6_save_58 ?_
      refine z_bipush (v := 58) E dX6_save_61 (by decide) ?_
      refine z_aload_n E dX6_save_63 rfl 1 rfl ?_
      refine z_get E 0 mw_obj (C := RX6) (T := TX6) (N := 16) rfl (fun _ h => List.mem_cons_of_mem _ (List.mem_append_right _ h)) 3 (by decide) (List.mem_of_getElem? (i := 1) (by decide +kernel)) rfl (v := .int (nI zz)) (congrArg (fun z : Int32 => some (Value.int z)) hz2) dX6_save_64 ?_
      refine z_imul E dX6_save_67 ?_
      refine z_iload_n E dX6_save_68 rfl 0 rfl ?_
      refine z_iadd E dX6_save_69 ?_
      rw [show (58 * (nI zz)) + (nI i2) = nI (58 * zz + i2) by rw [show (58 : Int32) = nI 58 from rfl, pk_mul, nI_add]]
      refine z_aload_n E dX6_save_70 rfl 1 rfl ?_
      refine z_get E 0 mw_obj (C := RX6) (T := TX6) (N := 16) rfl (fun _ h => List.mem_cons_of_mem _ (List.mem_append_right _ h)) 1 (by decide) (List.mem_of_getElem? (i := 3) (by decide +kernel)) rfl (v := .ref (am 1)) rfl dX6_save_71 ?_
      refine z_iload_n E dX6_save_74 rfl 0 rfl ?_
      refine z_iald E 1 0 mw_s rfl (vp_in_nI (by omega) (by decide)) (v := m 1 i2) ((congrArg (m 1) (nI_clamp (by omega))).trans rfl) dX6_save_75 ?_
      refine z_iast E 2 0 mw_saved rfl (vp_in_nI (by omega) (by decide)) (ws' := mw am cI dg (mset m 2 (58 * zz + i2) (m 1 i2))) (by rw [nI_clamp (by omega)]; exact (ms_saved (58 * zz + i2) (m 1 i2))) dX6_save_76 ?_
      refine z_gm2 (fun m3 hm3 => ?_)
      have xm3_0 : m3 0 3 = nI zz := by rw [hm3, mset_ne _ _ _ (by omega)]; exact hz2
      refine z_iinc (v := nI i2 + 1) (lv' := [(1, .int (nI i2 + 1)), (0, .ref (am 0))]) E dX6_save_77 (q := 0) rfl rfl (by decide) rfl ?_
      refine z_goto (tgt := 51) E dX6_save_80 (by decide) ?_
      refine z_eq (ws' := mw am cI dg m3) (lv' := [(1, .int (nI (i2 + 1))), (0, .ref (am 0))]) (st' := []) rfl (by rw [← nI_1 i2]) rfl ?_
      refine ih n2 (m3, i2 + 1) (by omega) ⟨by show i2 + 1 + n2 = 58; omega, by show m3 0 = _; rw [hm3, mset_ne _ _ _ (by decide)]; exact d0, by show m3 1 = _; rw [hm3, mset_ne _ _ _ (by decide)]; exact d1, by show m3 3 = _; rw [hm3, mset_ne _ _ _ (by decide)]; exact d3, fun j => ?_⟩
      show m3 2 j = if 58 * zz ≤ j ∧ j < 58 * zz + (i2 + 1) then _ else _
      rw [hm3]
      by_cases hj : j = 58 * zz + i2
      · rw [hj, mset_at, if_pos (by omega), show 58 * zz + i2 - 58 * zz = i2 by omega, d1]
      · rw [mset_ne2 _ _ hj, d2]
        by_cases hl : 58 * zz ≤ j ∧ j < 58 * zz + i2
        · rw [if_pos hl, if_pos (by omega)]
        · rw [if_neg hl, if_neg (by omega)]
  · skip
    obtain ⟨n, rfl⟩ : ∃ n1, n = n1 + 1 := ⟨n - 1, by have := zklt (k := i) (L := 290) (by omega) (by omega) c15; omega⟩
    refine z_aload_n E dX6_save_18 rfl 1 rfl ?_
    refine z_get E 0 mw_obj (C := RX6) (T := TX6) (N := 16) rfl (fun _ h => List.mem_cons_of_mem _ (List.mem_append_right _ h)) 2 (by decide) (List.mem_of_getElem? (i := 2) (by decide +kernel)) rfl (v := .ref (am 2)) rfl dX6_save_19 ?_
    refine z_iload_n E dX6_save_22 rfl 0 rfl ?_
    refine z_aload_n E dX6_save_23 rfl 1 rfl ?_
    refine z_get E 0 mw_obj (C := RX6) (T := TX6) (N := 16) rfl (fun _ h => List.mem_cons_of_mem _ (List.mem_append_right _ h)) 2 (by decide) (List.mem_of_getElem? (i := 2) (by decide +kernel)) rfl (v := .ref (am 2)) rfl dX6_save_24 ?_
    refine z_iload_n E dX6_save_27 rfl 0 rfl ?_
    refine z_bipush (v := 58) E dX6_save_28 (by decide) ?_
    refine z_iadd E dX6_save_30 ?_
    rw [show nI i + 58 = nI (i + 58) from nI_add i 58]
    refine z_iald E 2 0 mw_saved rfl (vp_in_nI (by omega) (by decide)) (v := m 2 (i + 58)) ((congrArg (m 2) (nI_clamp (by omega))).trans rfl) dX6_save_31 ?_
    refine z_iast E 2 0 mw_saved rfl (vp_in_nI (by omega) (by decide)) (ws' := mw am cI dg (mset m 2 i (m 2 (i + 58)))) (by rw [nI_clamp (by omega)]; exact (ms_saved i (m 2 (i + 58)))) dX6_save_32 ?_
    refine z_gm2 (fun m4 hm4 => ?_)
    have xm4_0 : m4 0 3 = 6 := by rw [hm4, mset_ne _ _ _ (by omega)]; exact hz0
    refine z_iinc (v := nI i + 1) (lv' := [(1, .int (nI i + 1)), (0, .ref (am 0))]) E dX6_save_33 (q := 0) rfl rfl (by decide) rfl ?_
    refine z_goto (tgt := 11) E dX6_save_36 (by decide) ?_
    refine z_eq (ws' := mw am cI dg m4) (lv' := [(1, .int (nI (i + 1))), (0, .ref (am 0))]) (st' := []) rfl (by rw [← nI_1 i]) rfl ?_
    refine ih n (m4, i + 1) (by omega) ⟨by show i + 1 + n = 290; omega, by show m4 0 = _; rw [hm4, mset_ne _ _ _ (by decide)]; exact e0, by show m4 1 = _; rw [hm4, mset_ne _ _ _ (by decide)]; exact e1, by show m4 3 = _; rw [hm4, mset_ne _ _ _ (by decide)]; exact e3, fun j => ?_⟩
    show m4 2 j = if j < i + 1 then mem 2 (j + 58) else mem 2 j
    rw [hm4]
    by_cases hj : j = i
    · rw [hj, mset_at, if_pos (by omega), e2, if_neg (by omega)]
    · rw [mset_ne2 _ _ hj, e2]
      by_cases hl : j < i
      · rw [if_pos hl, if_pos (by omega)]
      · rw [if_neg hl, if_neg (by omega)]
