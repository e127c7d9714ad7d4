/-! the reference's reader: whether a number goes on -/
def fGo (mem : zM) (P L : Nat) (N lo hi : Int32) : Int32 := if P < L then (if mem 3 P < 48 ∨ 57 < mem 3 P then 0 else if N ≤ 0 then 0 else if fBg (10 * N + mem 3 P - 48) lo hi = 0 then 0 else 1) else 0
theorem fBg_01 (v lo hi : Int32) : fBg v lo hi = 0 ∨ fBg v lo hi = 1 := f01_if (f01_if (f01_if (Or.inl rfl) (f01_if (Or.inl rfl) (Or.inr rfl))) (f01_if (Or.inr rfl) (f01_if (Or.inl rfl) (f01_if (Or.inl rfl) (Or.inr rfl))))) (Or.inr rfl)
set_option maxHeartbeats 1000000 in
set_option maxRecDepth 100000 in
theorem k_goesOn (l : Launch) (D : va_G) (am : Nat → Nat) (cI cR cS cL : ClassId) (dg : Int64) (mem : zM) {P L : Nat} (hPL0 : P ≤ L) (hL : L ≤ 60) (hpl : mem 0 10 = nI P) (hln : mem 0 5 = nI L) (hwr : mem 0 11 = 0) {N : Int32} (hnu : mem 0 14 = N) (lo hi : Int32) : zMi l yX6_goesOn wsX6_goesOn ({ frames := 2, cells := 0, slots := 0, locals := 44 }) D (cK cI cR cS cL) [.ref (am 0), .int lo, .int hi] (mw am cI dg mem) (fun r u => r = fGo mem P L N lo hi ∧ u = mem) (mw am cI dg) 0 0 := by
  refine zMiM.of (cc := cX6_goesOn) (maxL := 4) (ret := (some .boolean)) (by decide +kernel) rfl (lv0 := [(0, .ref (am 0)), (1, .int lo), (2, .int hi)]) (Nat.le_of_ble_eq_true rfl) rfl ?_
  intro p e s m args below meth c E hZ hr hlocks hnm
  obtain ⟨cv, hcv⟩ : ∃ v, mem 3 P = v := ⟨_, rfl⟩
  by_cases hPL : P < L
  · skip
    refine z_aload_n E dX6_goesOn_0 rfl 0 rfl ?_
    refine z_get E 0 mw_obj (C := RX6) (T := TX6) (N := 16) rfl (fun _ h => List.mem_cons_of_mem _ (List.mem_append_right _ h)) 11 (by decide) (List.mem_of_getElem? (i := 1) (by decide +kernel)) rfl (v := .int 0) (congrArg (fun z : Int32 => some (Value.int z)) hwr) dX6_goesOn_1 ?_
    refine z_if_ne_f (tgt := 41) E dX6_goesOn_4 (by decide) (by decide) ?_
    refine z_aload_n E dX6_goesOn_7 rfl 0 rfl ?_
    refine z_get E 0 mw_obj (C := RX6) (T := TX6) (N := 16) rfl (fun _ h => List.mem_cons_of_mem _ (List.mem_append_right _ h)) 10 (by decide) (List.mem_of_getElem? (i := 2) (by decide +kernel)) rfl (v := .int (nI P)) (congrArg (fun z : Int32 => some (Value.int z)) hpl) dX6_goesOn_8 ?_
    refine z_aload_n E dX6_goesOn_11 rfl 0 rfl ?_
    refine z_get E 0 mw_obj (C := RX6) (T := TX6) (N := 16) rfl (fun _ h => List.mem_cons_of_mem _ (List.mem_append_right _ h)) 5 (by decide) (List.mem_of_getElem? (i := 3) (by decide +kernel)) rfl (v := .int (nI L)) (congrArg (fun z : Int32 => some (Value.int z)) hln) dX6_goesOn_12 ?_
    refine z_icmp_ge_f (tgt := 41) E dX6_goesOn_15 (by decide) (fun h => by have := (nI_leI (by omega) (by omega)).mp h; omega) ?_
    refine z_aload_n E dX6_goesOn_18 rfl 0 rfl ?_
    refine z_get E 0 mw_obj (C := RX6) (T := TX6) (N := 16) rfl (fun _ h => List.mem_cons_of_mem _ (List.mem_append_right _ h)) 4 (by decide) (List.mem_of_getElem? (i := 4) (by decide +kernel)) rfl (v := .ref (am 3)) rfl dX6_goesOn_19 ?_
    refine z_aload_n E dX6_goesOn_22 rfl 0 rfl ?_
    refine z_get E 0 mw_obj (C := RX6) (T := TX6) (N := 16) rfl (fun _ h => List.mem_cons_of_mem _ (List.mem_append_right _ h)) 10 (by decide) (List.mem_of_getElem? (i := 2) (by decide +kernel)) rfl (v := .int (nI P)) (congrArg (fun z : Int32 => some (Value.int z)) hpl) dX6_goesOn_23 ?_
    refine z_iald E 3 0 mw_text rfl (vp_in_nI (by omega) (by decide)) (v := cv) ((congrArg (mem 3) (nI_clamp (by omega))).trans hcv) dX6_goesOn_26 ?_
    refine z_bipush (v := 48) E dX6_goesOn_27 (by decide) ?_
    refine z_bipush (v := 57) E dX6_goesOn_29 (by decide) ?_
    refine z_callSi E hZ (k_in l D am cI cR cS cL dg mem cv 48 57) gX6_goesOn_X6_in (n := 3) rfl rfl rfl (by decide +kernel) rfl ⟨Nat.le_of_ble_eq_true rfl, Nat.le_of_ble_eq_true rfl⟩ (As := [.int cv, .int 48, .int 57]) (rest := []) rfl (Nat.le_of_ble_eq_true rfl) ⟨Nat.le_of_ble_eq_true rfl, Nat.le_of_ble_eq_true rfl⟩ dX6_goesOn_31 (fun r u hp => ?_)
    rw [hp.1, hp.2]
    by_cases hin : cv < 48 ∨ 57 < cv
    · skip
      rw [fIn_0 hin]
      refine z_if_eq_t (tgt := 41) E dX6_goesOn_34 (by decide) (by decide) ?_
      refine z_iconst (v := 0) E dX6_goesOn_41 (by decide) ?_
      refine z_istore_n (lv' := [(3, .int 0), (0, .ref (am 0)), (1, .int lo), (2, .int hi)]) E dX6_goesOn_42 rfl (by decide) rfl ?_
      refine z_iload_n E dX6_goesOn_43 rfl 0 rfl ?_
      refine z_if_eq_t (tgt := 86) E dX6_goesOn_44 (by decide) (by decide) ?_
      refine z_iconst (v := 0) E dX6_goesOn_86 (by decide) ?_
      exact z_izretM E hr hlocks (mem) rfl rfl ⟨((if_pos hPL).trans (by rw [hcv]; exact (if_pos hin))).symm, rfl⟩ (Nat.le_of_ble_eq_true rfl) (Nat.le_of_ble_eq_true rfl) dX6_goesOn_87
    · skip
      rw [fIn_1 hin]
      refine z_if_eq_f (tgt := 41) E dX6_goesOn_34 (by decide) (by decide) ?_
      refine z_iconst (v := 1) E dX6_goesOn_37 (by decide) ?_
      refine z_goto (tgt := 42) E dX6_goesOn_38 (by decide) ?_
      refine z_istore_n (lv' := [(3, .int 1), (0, .ref (am 0)), (1, .int lo), (2, .int hi)]) E dX6_goesOn_42 rfl (by decide) rfl ?_
      refine z_iload_n E dX6_goesOn_43 rfl 0 rfl ?_
      refine z_if_eq_f (tgt := 86) E dX6_goesOn_44 (by decide) (by decide) ?_
      refine z_aload_n E dX6_goesOn_47 rfl 1 rfl ?_
      refine z_get E 0 mw_obj (C := RX6) (T := TX6) (N := 16) rfl (fun _ h => List.mem_cons_of_mem _ (List.mem_append_right _ h)) 14 (by decide) (List.mem_of_getElem? (i := 5) (by decide +kernel)) rfl (v := .int N) (congrArg (fun z : Int32 => some (Value.int z)) hnu) dX6_goesOn_48 ?_
      refine z_if_le (tgt := 86) E dX6_goesOn_51 (by decide) (fun c51 => ?_) (fun c51 => ?_)
      · skip
        refine z_iconst (v := 0) E dX6_goesOn_86 (by decide) ?_
        exact z_izretM E hr hlocks (mem) rfl rfl ⟨((if_pos hPL).trans (by rw [hcv]; exact ((if_neg hin).trans (if_pos c51)))).symm, rfl⟩ (Nat.le_of_ble_eq_true rfl) (Nat.le_of_ble_eq_true rfl) dX6_goesOn_87
      · skip
        refine z_bipush (v := 10) E dX6_goesOn_54 (by decide) ?_
        refine z_aload_n E dX6_goesOn_56 rfl 1 rfl ?_
        refine z_get E 0 mw_obj (C := RX6) (T := TX6) (N := 16) rfl (fun _ h => List.mem_cons_of_mem _ (List.mem_append_right _ h)) 14 (by decide) (List.mem_of_getElem? (i := 5) (by decide +kernel)) rfl (v := .int N) (congrArg (fun z : Int32 => some (Value.int z)) hnu) dX6_goesOn_57 ?_
        refine z_imul E dX6_goesOn_60 ?_
        refine z_aload_n E dX6_goesOn_61 rfl 1 rfl ?_
        refine z_get E 0 mw_obj (C := RX6) (T := TX6) (N := 16) rfl (fun _ h => List.mem_cons_of_mem _ (List.mem_append_right _ h)) 4 (by decide) (List.mem_of_getElem? (i := 4) (by decide +kernel)) rfl (v := .ref (am 3)) rfl dX6_goesOn_62 ?_
        refine z_aload_n E dX6_goesOn_65 rfl 1 rfl ?_
        refine z_get E 0 mw_obj (C := RX6) (T := TX6) (N := 16) rfl (fun _ h => List.mem_cons_of_mem _ (List.mem_append_right _ h)) 10 (by decide) (List.mem_of_getElem? (i := 2) (by decide +kernel)) rfl (v := .int (nI P)) (congrArg (fun z : Int32 => some (Value.int z)) hpl) dX6_goesOn_66 ?_
        refine z_iald E 3 0 mw_text rfl (vp_in_nI (by omega) (by decide)) (v := cv) ((congrArg (mem 3) (nI_clamp (by omega))).trans hcv) dX6_goesOn_69 ?_
        refine z_iadd E dX6_goesOn_70 ?_
        refine z_bipush (v := 48) E dX6_goesOn_71 (by decide) ?_
        refine z_isub E dX6_goesOn_73 ?_
        refine z_iload_n E dX6_goesOn_74 rfl 2 rfl ?_
        refine z_iload_n E dX6_goesOn_75 rfl 3 rfl ?_
        refine z_callSi E hZ (k_begins l D am cI cR cS cL dg mem (((10 * N) + cv) - 48) lo hi) gX6_goesOn_X6_begins (n := 3) rfl rfl rfl (by decide +kernel) rfl ⟨Nat.le_of_ble_eq_true rfl, Nat.le_of_ble_eq_true rfl⟩ (As := [.int (((10 * N) + cv) - 48), .int lo, .int hi]) (rest := []) rfl (Nat.le_of_ble_eq_true rfl) ⟨Nat.le_of_ble_eq_true rfl, Nat.le_of_ble_eq_true rfl⟩ dX6_goesOn_76 (fun r u hp => ?_)
        rw [hp.1, hp.2]
        refine z_if_eq (tgt := 86) E dX6_goesOn_79 (by decide) (fun c79 => ?_) (fun c79 => ?_)
        · skip
          refine z_iconst (v := 0) E dX6_goesOn_86 (by decide) ?_
          exact z_izretM E hr hlocks (mem) rfl rfl ⟨((if_pos hPL).trans (by rw [hcv]; exact ((if_neg hin).trans ((if_neg c51).trans (if_pos c79))))).symm, rfl⟩ (Nat.le_of_ble_eq_true rfl) (Nat.le_of_ble_eq_true rfl) dX6_goesOn_87
        · skip
          refine z_iconst (v := 1) E dX6_goesOn_82 (by decide) ?_
          refine z_goto (tgt := 87) E dX6_goesOn_83 (by decide) ?_
          exact z_izretM E hr hlocks (mem) rfl rfl ⟨((if_pos hPL).trans (by rw [hcv]; exact ((if_neg hin).trans ((if_neg c51).trans (if_neg c79))))).symm, rfl⟩ (Nat.le_of_ble_eq_true rfl) (Nat.le_of_ble_eq_true rfl) dX6_goesOn_87
  · skip
    refine z_aload_n E dX6_goesOn_0 rfl 0 rfl ?_
    refine z_get E 0 mw_obj (C := RX6) (T := TX6) (N := 16) rfl (fun _ h => List.mem_cons_of_mem _ (List.mem_append_right _ h)) 11 (by decide) (List.mem_of_getElem? (i := 1) (by decide +kernel)) rfl (v := .int 0) (congrArg (fun z : Int32 => some (Value.int z)) hwr) dX6_goesOn_1 ?_
    refine z_if_ne_f (tgt := 41) E dX6_goesOn_4 (by decide) (by decide) ?_
    refine z_aload_n E dX6_goesOn_7 rfl 0 rfl ?_
    refine z_get E 0 mw_obj (C := RX6) (T := TX6) (N := 16) rfl (fun _ h => List.mem_cons_of_mem _ (List.mem_append_right _ h)) 10 (by decide) (List.mem_of_getElem? (i := 2) (by decide +kernel)) rfl (v := .int (nI P)) (congrArg (fun z : Int32 => some (Value.int z)) hpl) dX6_goesOn_8 ?_
    refine z_aload_n E dX6_goesOn_11 rfl 0 rfl ?_
    refine z_get E 0 mw_obj (C := RX6) (T := TX6) (N := 16) rfl (fun _ h => List.mem_cons_of_mem _ (List.mem_append_right _ h)) 5 (by decide) (List.mem_of_getElem? (i := 3) (by decide +kernel)) rfl (v := .int (nI L)) (congrArg (fun z : Int32 => some (Value.int z)) hln) dX6_goesOn_12 ?_
    refine z_icmp_ge_t (tgt := 41) E dX6_goesOn_15 (by decide) ((nI_leI (by omega) (by omega)).mpr (by omega)) ?_
    refine z_iconst (v := 0) E dX6_goesOn_41 (by decide) ?_
    refine z_istore_n (lv' := [(3, .int 0), (0, .ref (am 0)), (1, .int lo), (2, .int hi)]) E dX6_goesOn_42 rfl (by decide) rfl ?_
    refine z_iload_n E dX6_goesOn_43 rfl 0 rfl ?_
    refine z_if_eq_t (tgt := 86) E dX6_goesOn_44 (by decide) (by decide) ?_
    refine z_iconst (v := 0) E dX6_goesOn_86 (by decide) ?_
    exact z_izretM E hr hlocks (mem) rfl rfl ⟨(if_neg hPL).symm, rfl⟩ (Nat.le_of_ble_eq_true rfl) (Nat.le_of_ble_eq_true rfl) dX6_goesOn_87
set_option maxHeartbeats 1000000 in
set_option maxRecDepth 100000 in
theorem k_goesOnW (l : Launch) (D : va_G) (am : Nat → Nat) (cI cR cS cL : ClassId) (dg : Int64) (mem : zM) (hwr : mem 0 11 = 1) (lo hi : Int32) : zMi l yX6_goesOn wsX6_goesOn ({ frames := 2, cells := 0, slots := 0, locals := 44 }) D (cK cI cR cS cL) [.ref (am 0), .int lo, .int hi] (mw am cI dg mem) (fun r u => r = 0 ∧ u = mem) (mw am cI dg) 0 0 := by
  refine zMiM.of (cc := cX6_goesOn) (maxL := 4) (ret := (some .boolean)) (by decide +kernel) rfl (lv0 := [(0, .ref (am 0)), (1, .int lo), (2, .int hi)]) (Nat.le_of_ble_eq_true rfl) rfl ?_
  intro p e s m args below meth c E hZ hr hlocks hnm
  refine z_aload_n E dX6_goesOn_0 rfl 0 rfl ?_
  refine z_get E 0 mw_obj (C := RX6) (T := TX6) (N := 16) rfl (fun _ h => List.mem_cons_of_mem _ (List.mem_append_right _ h)) 11 (by decide) (List.mem_of_getElem? (i := 1) (by decide +kernel)) rfl (v := .int 1) (congrArg (fun z : Int32 => some (Value.int z)) hwr) dX6_goesOn_1 ?_
  refine z_if_ne_t (tgt := 41) E dX6_goesOn_4 (by decide) (by decide) ?_
  refine z_iconst (v := 0) E dX6_goesOn_41 (by decide) ?_
  refine z_istore_n (lv' := [(3, .int 0), (0, .ref (am 0)), (1, .int lo), (2, .int hi)]) E dX6_goesOn_42 rfl (by decide) rfl ?_
  refine z_iload_n E dX6_goesOn_43 rfl 0 rfl ?_
  refine z_if_eq_t (tgt := 86) E dX6_goesOn_44 (by decide) (by decide) ?_
  refine z_iconst (v := 0) E dX6_goesOn_86 (by decide) ?_
  exact z_izretM E hr hlocks (mem) rfl rfl ⟨rfl, rfl⟩ (Nat.le_of_ble_eq_true rfl) (Nat.le_of_ble_eq_true rfl) dX6_goesOn_87
