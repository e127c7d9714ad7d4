/-! LadderClimb$Site and LadderClimb$History -/
def sCopy4 (mem : zM) (t t2 : Nat) : zM := sCopy (sCopy (sCopy (sCopy mem (4 * t + 0) (4 * t2 + 0)) (4 * t + 1) (4 * t2 + 1)) (4 * t + 2) (4 * t2 + 2)) (4 * t + 3) (4 * t2 + 3)
def sSiteCopy (mem : zM) (t t2 : Nat) : zM := mset (mset (sCopy4 mem t t2) (87 + t) 1 (sCopy4 mem t t2 (87 + t2) 1)) (87 + t) 2 (sCopy4 mem t t2 (87 + t2) 2)
def fCntC (x acc : Int32) (k : Int32 → Int32) : Int32 := if x = 0 then k acc else k (acc + 1)
theorem fCntC_0 {x acc : Int32} {k : Int32 → Int32} (h : x = 0) : fCntC x acc k = k acc := if_pos h
theorem fCntC_1 {x acc : Int32} {k : Int32 → Int32} (h : ¬ x = 0) : fCntC x acc k = k (acc + 1) := if_neg h
def fStanding (mem : zM) (t : Nat) : Int32 := fCntC (fStands (rv mem (4 * t + 0))) 0 (fun a => fCntC (fStands (rv mem (4 * t + 1))) a (fun b => fCntC (fStands (rv mem (4 * t + 2))) b (fun c => fCntC (fStands (rv mem (4 * t + 3))) c (fun d => d))))
def fPeople (mem : zM) (t : Nat) : Int32 := 0 + mem (3 * (4 * t + 0)) 7 + mem (3 * (4 * t + 1)) 7 + mem (3 * (4 * t + 2)) 7 + mem (3 * (4 * t + 3)) 7
def fFalls (mem : zM) (t : Nat) : Int32 := 0 + mem (3 * (4 * t + 0)) 6 + mem (3 * (4 * t + 1)) 6 + mem (3 * (4 * t + 2)) 6 + mem (3 * (4 * t + 3)) 6
def sFall (mem : zM) (t j : Nat) : zM := sRemoveAll (mset (mset mem (87 + t) 1 (mem (87 + t) 1 + mem (3 * j) 7)) (3 * j) 6 (mem (3 * j) 6 + 1)) j
def fFN (R : Nat → Int32) : Int32 := if R 7 = 0 then 0 else if fStands R = 0 then 1 else 0
def sFN (mem : zM) (t j : Nat) : zM := if mem (3 * j) 7 = 0 then mem else if fStands (rv mem j) = 0 then sFall mem t j else mem
theorem fFN_01 (R : Nat → Int32) : fFN R = 0 ∨ fFN R = 1 := f01_if (Or.inl rfl) (f01_if (Or.inr rfl) (Or.inl rfl))
/-- one climbs d steps more on the rig j of the site t, by way each -/
def wkM (t j q : Nat) (way : Int32) (m : zM) : zM := mset (mset m (3 * j + 2) q (m (3 * j + 2) q + way)) (87 + t) 2 (m (87 + t) 2 + 1)
def wkGo (t j q : Nat) (way step : Int32) : Nat → zM → Int32 × zM
  | 0, m => (step, m)
  | d + 1, m => if fStands (rv (wkM t j q way m) j) = 0 then (-1, sFall (wkM t j q way m) t j) else wkGo t j q way step d (wkM t j q way m)
theorem wkGo_succ (t j q : Nat) (way step : Int32) (d : Nat) (m : zM) : wkGo t j q way step (d + 1) m = if fStands (rv (wkM t j q way m) j) = 0 then (-1, sFall (wkM t j q way m) t j) else wkGo t j q way step d (wkM t j q way m) := by
  rw [wkGo]
def sSave (mem : zM) (q z : Nat) : zM := mset (mset (sSiteCopy mem (q + 1) 0) 101 1 (if q + 1 < 6 then nI (q + 1) else 0)) 101 2 (if z < 6 then nI (z + 1) else 6)
def sRest (mem : zM) (q z : Nat) : zM := mset (mset (sSiteCopy mem 0 (q + 1)) 101 1 (nI q)) 101 2 (nI z - 1)

set_option maxHeartbeats 1000000 in
set_option maxRecDepth 100000 in
theorem k_siteCopy (l : Launch) (D : va_G) (ad : Nat → Nat) (cI cR cS cL : ClassId) (mem : zM) {t : Nat} (ht : t < 7) {t2 : Nat} (ht2 : t2 < 7) (hne : t ≠ t2) : zMv l yX3_copyFrom wsX3_copyFrom ({ frames := 1, cells := 0, slots := 0, locals := 22 }) D (cK cI cR cS cL) [.ref (ad (87 + t)), .ref (ad (87 + t2))] (cw ad cI cR cS mem) (fun u => u = sSiteCopy mem t t2) (cw ad cI cR cS) 0 0 := by
  refine zMvM.of (cc := cX3_copyFrom) (maxL := 3) (ret := none) (by decide +kernel) rfl (lv0 := [(0, .ref (ad (87 + t))), (1, .ref (ad (87 + t2)))]) (Nat.le_of_ble_eq_true rfl) rfl ?_
  intro p e s m args below meth c E hZ hr hlocks hnm
  refine z_iconst (v := 0) E dX3_copyFrom_0 (by decide) ?_
  refine z_istore_n (lv' := [(2, .int 0), (0, .ref (ad (87 + t))), (1, .ref (ad (87 + t2)))]) E dX3_copyFrom_1 rfl (by decide) rfl ?_
  refine z_iload_n E dX3_copyFrom_2 rfl 0 rfl ?_
  refine z_iconst (v := 4) E dX3_copyFrom_3 (by decide) ?_
  refine z_icmp_ge_f (tgt := 28) E dX3_copyFrom_4 (by decide) (by decide) ?_
  refine z_aload_n E dX3_copyFrom_7 rfl 1 rfl ?_
  refine z_get E (87 + t) (cw_site ht) (C := RX3) (T := TX3) (N := 3) rfl (fun _ h => List.mem_cons_of_mem _ (List.mem_append_left _ (List.mem_append_right _ h))) 0 (by decide) (List.mem_of_getElem? (i := 1) (by decide +kernel)) rfl (v := .ref (ad (94 + t))) rfl dX3_copyFrom_8 ?_
  refine z_iload_n E dX3_copyFrom_11 rfl 0 rfl ?_
  refine z_aldq E (94 + t) 1 (C := "LadderClimb$Rig") (cw_rigs ht) rfl (zvin rfl) (v := .ref (ad (3 * (4 * t + 0)))) rfl dX3_copyFrom_12 ?_
  refine z_aload_n E dX3_copyFrom_13 rfl 2 rfl ?_
  refine z_get E (87 + t2) (cw_site ht2) (C := RX3) (T := TX3) (N := 3) rfl (fun _ h => List.mem_cons_of_mem _ (List.mem_append_left _ (List.mem_append_right _ h))) 0 (by decide) (List.mem_of_getElem? (i := 1) (by decide +kernel)) rfl (v := .ref (ad (94 + t2))) rfl dX3_copyFrom_14 ?_
  refine z_iload_n E dX3_copyFrom_17 rfl 0 rfl ?_
  refine z_aldq E (94 + t2) 1 (C := "LadderClimb$Rig") (cw_rigs ht2) rfl (zvin rfl) (v := .ref (ad (3 * (4 * t2 + 0)))) rfl dX3_copyFrom_18 ?_
  refine z_callVv E hZ (k_rigCopy l D ad cI cR cS cL mem (by omega) (by omega) (by omega)) gX3_copyFrom_X2_copyFrom (n := 1) rfl rfl rfl (by decide +kernel) rfl ⟨Nat.le_of_ble_eq_true rfl, Nat.le_of_ble_eq_true rfl⟩  (C := RX2) rfl (3 * (4 * t + 0)) (cw_rig (by omega)) (As := [.ref (ad (3 * (4 * t2 + 0)))]) (rest := []) rfl (Nat.le_of_ble_eq_true rfl) ⟨Nat.le_of_ble_eq_true rfl, Nat.le_of_ble_eq_true rfl⟩ dX3_copyFrom_19 (fun u hp => ?_)
  rw [hp]
  refine z_gm (fun m41 hm41 => ?_)
  refine z_iinc (v := 1) (lv' := [(2, .int 1), (0, .ref (ad (87 + t))), (1, .ref (ad (87 + t2)))]) E dX3_copyFrom_22 (q := 0) rfl (by decide) (by decide) rfl ?_
  refine z_goto (tgt := 2) E dX3_copyFrom_25 (by decide) ?_
  refine z_iload_n E dX3_copyFrom_2 rfl 0 rfl ?_
  refine z_iconst (v := 4) E dX3_copyFrom_3 (by decide) ?_
  refine z_icmp_ge_f (tgt := 28) E dX3_copyFrom_4 (by decide) (by decide) ?_
  refine z_aload_n E dX3_copyFrom_7 rfl 1 rfl ?_
  refine z_get E (87 + t) (cw_site ht) (C := RX3) (T := TX3) (N := 3) rfl (fun _ h => List.mem_cons_of_mem _ (List.mem_append_left _ (List.mem_append_right _ h))) 0 (by decide) (List.mem_of_getElem? (i := 1) (by decide +kernel)) rfl (v := .ref (ad (94 + t))) rfl dX3_copyFrom_8 ?_
  refine z_iload_n E dX3_copyFrom_11 rfl 0 rfl ?_
  refine z_aldq E (94 + t) 1 (C := "LadderClimb$Rig") (cw_rigs ht) rfl (zvin rfl) (v := .ref (ad (3 * (4 * t + 1)))) rfl dX3_copyFrom_12 ?_
  refine z_aload_n E dX3_copyFrom_13 rfl 2 rfl ?_
  refine z_get E (87 + t2) (cw_site ht2) (C := RX3) (T := TX3) (N := 3) rfl (fun _ h => List.mem_cons_of_mem _ (List.mem_append_left _ (List.mem_append_right _ h))) 0 (by decide) (List.mem_of_getElem? (i := 1) (by decide +kernel)) rfl (v := .ref (ad (94 + t2))) rfl dX3_copyFrom_14 ?_
  refine z_iload_n E dX3_copyFrom_17 rfl 0 rfl ?_
  refine z_aldq E (94 + t2) 1 (C := "LadderClimb$Rig") (cw_rigs ht2) rfl (zvin rfl) (v := .ref (ad (3 * (4 * t2 + 1)))) rfl dX3_copyFrom_18 ?_
  refine z_callVv E hZ (k_rigCopy l D ad cI cR cS cL m41 (by omega) (by omega) (by omega)) gX3_copyFrom_X2_copyFrom (n := 1) rfl rfl rfl (by decide +kernel) rfl ⟨Nat.le_of_ble_eq_true rfl, Nat.le_of_ble_eq_true rfl⟩  (C := RX2) rfl (3 * (4 * t + 1)) (cw_rig (by omega)) (As := [.ref (ad (3 * (4 * t2 + 1)))]) (rest := []) rfl (Nat.le_of_ble_eq_true rfl) ⟨Nat.le_of_ble_eq_true rfl, Nat.le_of_ble_eq_true rfl⟩ dX3_copyFrom_19 (fun u hp => ?_)
  rw [hp]
  refine z_gm (fun m42 hm42 => ?_)
  refine z_iinc (v := 2) (lv' := [(2, .int 2), (0, .ref (ad (87 + t))), (1, .ref (ad (87 + t2)))]) E dX3_copyFrom_22 (q := 0) rfl (by decide) (by decide) rfl ?_
  refine z_goto (tgt := 2) E dX3_copyFrom_25 (by decide) ?_
  refine z_iload_n E dX3_copyFrom_2 rfl 0 rfl ?_
  refine z_iconst (v := 4) E dX3_copyFrom_3 (by decide) ?_
  refine z_icmp_ge_f (tgt := 28) E dX3_copyFrom_4 (by decide) (by decide) ?_
  refine z_aload_n E dX3_copyFrom_7 rfl 1 rfl ?_
  refine z_get E (87 + t) (cw_site ht) (C := RX3) (T := TX3) (N := 3) rfl (fun _ h => List.mem_cons_of_mem _ (List.mem_append_left _ (List.mem_append_right _ h))) 0 (by decide) (List.mem_of_getElem? (i := 1) (by decide +kernel)) rfl (v := .ref (ad (94 + t))) rfl dX3_copyFrom_8 ?_
  refine z_iload_n E dX3_copyFrom_11 rfl 0 rfl ?_
  refine z_aldq E (94 + t) 1 (C := "LadderClimb$Rig") (cw_rigs ht) rfl (zvin rfl) (v := .ref (ad (3 * (4 * t + 2)))) rfl dX3_copyFrom_12 ?_
  refine z_aload_n E dX3_copyFrom_13 rfl 2 rfl ?_
  refine z_get E (87 + t2) (cw_site ht2) (C := RX3) (T := TX3) (N := 3) rfl (fun _ h => List.mem_cons_of_mem _ (List.mem_append_left _ (List.mem_append_right _ h))) 0 (by decide) (List.mem_of_getElem? (i := 1) (by decide +kernel)) rfl (v := .ref (ad (94 + t2))) rfl dX3_copyFrom_14 ?_
  refine z_iload_n E dX3_copyFrom_17 rfl 0 rfl ?_
  refine z_aldq E (94 + t2) 1 (C := "LadderClimb$Rig") (cw_rigs ht2) rfl (zvin rfl) (v := .ref (ad (3 * (4 * t2 + 2)))) rfl dX3_copyFrom_18 ?_
  refine z_callVv E hZ (k_rigCopy l D ad cI cR cS cL m42 (by omega) (by omega) (by omega)) gX3_copyFrom_X2_copyFrom (n := 1) rfl rfl rfl (by decide +kernel) rfl ⟨Nat.le_of_ble_eq_true rfl, Nat.le_of_ble_eq_true rfl⟩  (C := RX2) rfl (3 * (4 * t + 2)) (cw_rig (by omega)) (As := [.ref (ad (3 * (4 * t2 + 2)))]) (rest := []) rfl (Nat.le_of_ble_eq_true rfl) ⟨Nat.le_of_ble_eq_true rfl, Nat.le_of_ble_eq_true rfl⟩ dX3_copyFrom_19 (fun u hp => ?_)
  rw [hp]
  refine z_gm (fun m43 hm43 => ?_)
  refine z_iinc (v := 3) (lv' := [(2, .int 3), (0, .ref (ad (87 + t))), (1, .ref (ad (87 + t2)))]) E dX3_copyFrom_22 (q := 0) rfl (by decide) (by decide) rfl ?_
  refine z_goto (tgt := 2) E dX3_copyFrom_25 (by decide) ?_
  refine z_iload_n E dX3_copyFrom_2 rfl 0 rfl ?_
  refine z_iconst (v := 4) E dX3_copyFrom_3 (by decide) ?_
  refine z_icmp_ge_f (tgt := 28) E dX3_copyFrom_4 (by decide) (by decide) ?_
  refine z_aload_n E dX3_copyFrom_7 rfl 1 rfl ?_
  refine z_get E (87 + t) (cw_site ht) (C := RX3) (T := TX3) (N := 3) rfl (fun _ h => List.mem_cons_of_mem _ (List.mem_append_left _ (List.mem_append_right _ h))) 0 (by decide) (List.mem_of_getElem? (i := 1) (by decide +kernel)) rfl (v := .ref (ad (94 + t))) rfl dX3_copyFrom_8 ?_
  refine z_iload_n E dX3_copyFrom_11 rfl 0 rfl ?_
  refine z_aldq E (94 + t) 1 (C := "LadderClimb$Rig") (cw_rigs ht) rfl (zvin rfl) (v := .ref (ad (3 * (4 * t + 3)))) rfl dX3_copyFrom_12 ?_
  refine z_aload_n E dX3_copyFrom_13 rfl 2 rfl ?_
  refine z_get E (87 + t2) (cw_site ht2) (C := RX3) (T := TX3) (N := 3) rfl (fun _ h => List.mem_cons_of_mem _ (List.mem_append_left _ (List.mem_append_right _ h))) 0 (by decide) (List.mem_of_getElem? (i := 1) (by decide +kernel)) rfl (v := .ref (ad (94 + t2))) rfl dX3_copyFrom_14 ?_
  refine z_iload_n E dX3_copyFrom_17 rfl 0 rfl ?_
  refine z_aldq E (94 + t2) 1 (C := "LadderClimb$Rig") (cw_rigs ht2) rfl (zvin rfl) (v := .ref (ad (3 * (4 * t2 + 3)))) rfl dX3_copyFrom_18 ?_
  refine z_callVv E hZ (k_rigCopy l D ad cI cR cS cL m43 (by omega) (by omega) (by omega)) gX3_copyFrom_X2_copyFrom (n := 1) rfl rfl rfl (by decide +kernel) rfl ⟨Nat.le_of_ble_eq_true rfl, Nat.le_of_ble_eq_true rfl⟩  (C := RX2) rfl (3 * (4 * t + 3)) (cw_rig (by omega)) (As := [.ref (ad (3 * (4 * t2 + 3)))]) (rest := []) rfl (Nat.le_of_ble_eq_true rfl) ⟨Nat.le_of_ble_eq_true rfl, Nat.le_of_ble_eq_true rfl⟩ dX3_copyFrom_19 (fun u hp => ?_)
  rw [hp]
  refine z_gm (fun m44 hm44 => ?_)
  refine z_iinc (v := 4) (lv' := [(2, .int 4), (0, .ref (ad (87 + t))), (1, .ref (ad (87 + t2)))]) E dX3_copyFrom_22 (q := 0) rfl (by decide) (by decide) rfl ?_
  refine z_goto (tgt := 2) E dX3_copyFrom_25 (by decide) ?_
  refine z_iload_n E dX3_copyFrom_2 rfl 0 rfl ?_
  refine z_iconst (v := 4) E dX3_copyFrom_3 (by decide) ?_
  refine z_icmp_ge_t (tgt := 28) E dX3_copyFrom_4 (by decide) (by decide) ?_
  refine z_aload_n E dX3_copyFrom_28 rfl 1 rfl ?_
  refine z_aload_n E dX3_copyFrom_29 rfl 2 rfl ?_
  refine z_get E (87 + t2) (cw_site ht2) (C := RX3) (T := TX3) (N := 3) rfl (fun _ h => List.mem_cons_of_mem _ (List.mem_append_left _ (List.mem_append_right _ h))) 1 (by decide) (List.mem_of_getElem? (i := 2) (by decide +kernel)) rfl (v := .int (m44 (87 + t2) 1)) rfl dX3_copyFrom_30 ?_
  refine z_put E (87 + t) (cw_site ht) (C := RX3) (T := TX3) (N := 3) rfl (fun _ h => List.mem_cons_of_mem _ (List.mem_append_left _ (List.mem_append_right _ h))) tyX3 tyX3_ok nmX3 1 (by decide) (List.mem_of_getElem? (i := 2) (by decide +kernel)) rfl rfl rfl rfl (Nat.le_of_ble_eq_true rfl) (ws' := cw ad cI cR cS (mset m44 (87 + t) 1 (m44 (87 + t2) 1))) (cs_site ht 1 (by decide) (by decide) rfl) dX3_copyFrom_33 ?_
  refine z_gm (fun m45 hm45 => ?_)
  have Fm45_0 : m45 (87 + t2) = m44 (87 + t2) := by rw [hm45, mset_ne _ _ _ (by omega)]
  refine z_aload_n E dX3_copyFrom_36 rfl 1 rfl ?_
  refine z_aload_n E dX3_copyFrom_37 rfl 2 rfl ?_
  refine z_get E (87 + t2) (cw_site ht2) (C := RX3) (T := TX3) (N := 3) rfl (fun _ h => List.mem_cons_of_mem _ (List.mem_append_left _ (List.mem_append_right _ h))) 2 (by decide) (List.mem_of_getElem? (i := 3) (by decide +kernel)) rfl (v := .int (m44 (87 + t2) 2)) (congrArg (fun z : Nat → Int32 => some (Value.int (z 2))) Fm45_0) dX3_copyFrom_38 ?_
  refine z_put E (87 + t) (cw_site ht) (C := RX3) (T := TX3) (N := 3) rfl (fun _ h => List.mem_cons_of_mem _ (List.mem_append_left _ (List.mem_append_right _ h))) tyX3 tyX3_ok nmX3 2 (by decide) (List.mem_of_getElem? (i := 3) (by decide +kernel)) rfl rfl rfl rfl (Nat.le_of_ble_eq_true rfl) (ws' := cw ad cI cR cS (mset m45 (87 + t) 2 (m44 (87 + t2) 2))) (cs_site ht 2 (by decide) (by decide) rfl) dX3_copyFrom_41 ?_
  refine z_gm (fun m46 hm46 => ?_)
  have Fm46_0 : m46 (87 + t2) = m44 (87 + t2) := by rw [hm46, mset_ne _ _ _ (by omega)]; exact Fm45_0
  exact z_vretM E hr hlocks (m46) rfl (by rw [hm46, hm45, hm44, hm43, hm42, hm41]; rfl) (Nat.le_of_ble_eq_true rfl) (Nat.le_of_ble_eq_true rfl) dX3_copyFrom_44
set_option maxHeartbeats 1000000 in
set_option maxRecDepth 100000 in
theorem k_standing (l : Launch) (D : va_G) (ad : Nat → Nat) (cI cR cS cL : ClassId) (mem : zM) {t : Nat} (ht : t < 7) : zMi l yX3_standing wsX3_standing ({ frames := 4, cells := 0, slots := 0, locals := 84 }) D (cK cI cR cS cL) [.ref (ad (87 + t))] (cw ad cI cR cS mem) (fun r u => r = fStanding mem t ∧ u = mem) (cw ad cI cR cS) 0 0 := by
  refine zMiM.of (cc := cX3_standing) (maxL := 3) (ret := (some .int)) (by decide +kernel) rfl (lv0 := [(0, .ref (ad (87 + t)))]) (Nat.le_of_ble_eq_true rfl) rfl ?_
  intro p e s m args below meth c E hZ hr hlocks hnm
  refine z_iconst (v := 0) E dX3_standing_0 (by decide) ?_
  refine z_istore_n (lv' := [(1, .int 0), (0, .ref (ad (87 + t)))]) E dX3_standing_1 rfl (by decide) rfl ?_
  refine z_iconst (v := 0) E dX3_standing_2 (by decide) ?_
  refine z_istore_n (lv' := [(2, .int 0), (1, .int 0), (0, .ref (ad (87 + t)))]) E dX3_standing_3 rfl (by decide) rfl ?_
  refine z_iload_n E dX3_standing_4 rfl 0 rfl ?_
  refine z_iconst (v := 4) E dX3_standing_5 (by decide) ?_
  refine z_icmp_ge_f (tgt := 30) E dX3_standing_6 (by decide) (by decide) ?_
  refine z_aload_n E dX3_standing_9 rfl 2 rfl ?_
  refine z_get E (87 + t) (cw_site ht) (C := RX3) (T := TX3) (N := 3) rfl (fun _ h => List.mem_cons_of_mem _ (List.mem_append_left _ (List.mem_append_right _ h))) 0 (by decide) (List.mem_of_getElem? (i := 1) (by decide +kernel)) rfl (v := .ref (ad (94 + t))) rfl dX3_standing_10 ?_
  refine z_iload_n E dX3_standing_13 rfl 0 rfl ?_
  refine z_aldq E (94 + t) 1 (C := "LadderClimb$Rig") (cw_rigs ht) rfl (zvin rfl) (v := .ref (ad (3 * (4 * t + 0)))) rfl dX3_standing_14 ?_
  refine z_callVi E hZ (k_stands l D ad cI cR cS cL mem (by omega)) gX3_standing_X2_stands (n := 0) rfl rfl rfl (by decide +kernel) rfl ⟨Nat.le_of_ble_eq_true rfl, Nat.le_of_ble_eq_true rfl⟩  (C := RX2) rfl (3 * (4 * t + 0)) (cw_rig (by omega)) (As := []) (rest := []) rfl (Nat.le_of_ble_eq_true rfl) ⟨Nat.le_of_ble_eq_true rfl, Nat.le_of_ble_eq_true rfl⟩ dX3_standing_15 (fun r u hp => ?_)
  rw [hp.1, hp.2]
  refine z_if_eq (tgt := 24) E dX3_standing_18 (by decide) (fun c18_13 => ?_) (fun c18_13 => ?_)
  · skip
    refine z_iinc (v := 1) (lv' := [(2, .int 1), (1, .int 0), (0, .ref (ad (87 + t)))]) E dX3_standing_24 (q := 0) rfl (by decide) (by decide) rfl ?_
    refine z_goto (tgt := 4) E dX3_standing_27 (by decide) ?_
    refine z_iload_n E dX3_standing_4 rfl 0 rfl ?_
    refine z_iconst (v := 4) E dX3_standing_5 (by decide) ?_
    refine z_icmp_ge_f (tgt := 30) E dX3_standing_6 (by decide) (by decide) ?_
    refine z_aload_n E dX3_standing_9 rfl 2 rfl ?_
    refine z_get E (87 + t) (cw_site ht) (C := RX3) (T := TX3) (N := 3) rfl (fun _ h => List.mem_cons_of_mem _ (List.mem_append_left _ (List.mem_append_right _ h))) 0 (by decide) (List.mem_of_getElem? (i := 1) (by decide +kernel)) rfl (v := .ref (ad (94 + t))) rfl dX3_standing_10 ?_
    refine z_iload_n E dX3_standing_13 rfl 0 rfl ?_
    refine z_aldq E (94 + t) 1 (C := "LadderClimb$Rig") (cw_rigs ht) rfl (zvin rfl) (v := .ref (ad (3 * (4 * t + 1)))) rfl dX3_standing_14 ?_
    refine z_callVi E hZ (k_stands l D ad cI cR cS cL mem (by omega)) gX3_standing_X2_stands (n := 0) rfl rfl rfl (by decide +kernel) rfl ⟨Nat.le_of_ble_eq_true rfl, Nat.le_of_ble_eq_true rfl⟩  (C := RX2) rfl (3 * (4 * t + 1)) (cw_rig (by omega)) (As := []) (rest := []) rfl (Nat.le_of_ble_eq_true rfl) ⟨Nat.le_of_ble_eq_true rfl, Nat.le_of_ble_eq_true rfl⟩ dX3_standing_15 (fun r u hp => ?_)
    rw [hp.1, hp.2]
    refine z_if_eq (tgt := 24) E dX3_standing_18 (by decide) (fun c18_24 => ?_) (fun c18_24 => ?_)
    · skip
      refine z_iinc (v := 2) (lv' := [(2, .int 2), (1, .int 0), (0, .ref (ad (87 + t)))]) E dX3_standing_24 (q := 0) rfl (by decide) (by decide) rfl ?_
      refine z_goto (tgt := 4) E dX3_standing_27 (by decide) ?_
      refine z_iload_n E dX3_standing_4 rfl 0 rfl ?_
      refine z_iconst (v := 4) E dX3_standing_5 (by decide) ?_
      refine z_icmp_ge_f (tgt := 30) E dX3_standing_6 (by decide) (by decide) ?_
      refine z_aload_n E dX3_standing_9 rfl 2 rfl ?_
      refine z_get E (87 + t) (cw_site ht) (C := RX3) (T := TX3) (N := 3) rfl (fun _ h => List.mem_cons_of_mem _ (List.mem_append_left _ (List.mem_append_right _ h))) 0 (by decide) (List.mem_of_getElem? (i := 1) (by decide +kernel)) rfl (v := .ref (ad (94 + t))) rfl dX3_standing_10 ?_
      refine z_iload_n E dX3_standing_13 rfl 0 rfl ?_
      refine z_aldq E (94 + t) 1 (C := "LadderClimb$Rig") (cw_rigs ht) rfl (zvin rfl) (v := .ref (ad (3 * (4 * t + 2)))) rfl dX3_standing_14 ?_
      refine z_callVi E hZ (k_stands l D ad cI cR cS cL mem (by omega)) gX3_standing_X2_stands (n := 0) rfl rfl rfl (by decide +kernel) rfl ⟨Nat.le_of_ble_eq_true rfl, Nat.le_of_ble_eq_true rfl⟩  (C := RX2) rfl (3 * (4 * t + 2)) (cw_rig (by omega)) (As := []) (rest := []) rfl (Nat.le_of_ble_eq_true rfl) ⟨Nat.le_of_ble_eq_true rfl, Nat.le_of_ble_eq_true rfl⟩ dX3_standing_15 (fun r u hp => ?_)
      rw [hp.1, hp.2]
      refine z_if_eq (tgt := 24) E dX3_standing_18 (by decide) (fun c18_35 => ?_) (fun c18_35 => ?_)
      · skip
        refine z_iinc (v := 3) (lv' := [(2, .int 3), (1, .int 0), (0, .ref (ad (87 + t)))]) E dX3_standing_24 (q := 0) rfl (by decide) (by decide) rfl ?_
        refine z_goto (tgt := 4) E dX3_standing_27 (by decide) ?_
        refine z_iload_n E dX3_standing_4 rfl 0 rfl ?_
        refine z_iconst (v := 4) E dX3_standing_5 (by decide) ?_
        refine z_icmp_ge_f (tgt := 30) E dX3_standing_6 (by decide) (by decide) ?_
        refine z_aload_n E dX3_standing_9 rfl 2 rfl ?_
        refine z_get E (87 + t) (cw_site ht) (C := RX3) (T := TX3) (N := 3) rfl (fun _ h => List.mem_cons_of_mem _ (List.mem_append_left _ (List.mem_append_right _ h))) 0 (by decide) (List.mem_of_getElem? (i := 1) (by decide +kernel)) rfl (v := .ref (ad (94 + t))) rfl dX3_standing_10 ?_
        refine z_iload_n E dX3_standing_13 rfl 0 rfl ?_
        refine z_aldq E (94 + t) 1 (C := "LadderClimb$Rig") (cw_rigs ht) rfl (zvin rfl) (v := .ref (ad (3 * (4 * t + 3)))) rfl dX3_standing_14 ?_
        refine z_callVi E hZ (k_stands l D ad cI cR cS cL mem (by omega)) gX3_standing_X2_stands (n := 0) rfl rfl rfl (by decide +kernel) rfl ⟨Nat.le_of_ble_eq_true rfl, Nat.le_of_ble_eq_true rfl⟩  (C := RX2) rfl (3 * (4 * t + 3)) (cw_rig (by omega)) (As := []) (rest := []) rfl (Nat.le_of_ble_eq_true rfl) ⟨Nat.le_of_ble_eq_true rfl, Nat.le_of_ble_eq_true rfl⟩ dX3_standing_15 (fun r u hp => ?_)
        rw [hp.1, hp.2]
        refine z_if_eq (tgt := 24) E dX3_standing_18 (by decide) (fun c18_46 => ?_) (fun c18_46 => ?_)
        · skip
          refine z_iinc (v := 4) (lv' := [(2, .int 4), (1, .int 0), (0, .ref (ad (87 + t)))]) E dX3_standing_24 (q := 0) rfl (by decide) (by decide) rfl ?_
          refine z_goto (tgt := 4) E dX3_standing_27 (by decide) ?_
          refine z_iload_n E dX3_standing_4 rfl 0 rfl ?_
          refine z_iconst (v := 4) E dX3_standing_5 (by decide) ?_
          refine z_icmp_ge_t (tgt := 30) E dX3_standing_6 (by decide) (by decide) ?_
          refine z_iload_n E dX3_standing_30 rfl 1 rfl ?_
          exact z_iretM E hr hlocks (mem) rfl ⟨(show fStanding mem t = 0 by unfold fStanding; rw [fCntC_0 c18_13, fCntC_0 c18_24, fCntC_0 c18_35, fCntC_0 c18_46]).symm, rfl⟩ (Nat.le_of_ble_eq_true rfl) (Nat.le_of_ble_eq_true rfl) dX3_standing_31
        · skip
          refine z_iinc (v := 1) (lv' := [(1, .int 1), (2, .int 3), (0, .ref (ad (87 + t)))]) E dX3_standing_21 (q := 1) rfl (by decide) (by decide) rfl ?_
          refine z_iinc (v := 4) (lv' := [(2, .int 4), (1, .int 1), (0, .ref (ad (87 + t)))]) E dX3_standing_24 (q := 1) rfl (by decide) (by decide) rfl ?_
          refine z_goto (tgt := 4) E dX3_standing_27 (by decide) ?_
          refine z_iload_n E dX3_standing_4 rfl 0 rfl ?_
          refine z_iconst (v := 4) E dX3_standing_5 (by decide) ?_
          refine z_icmp_ge_t (tgt := 30) E dX3_standing_6 (by decide) (by decide) ?_
          refine z_iload_n E dX3_standing_30 rfl 1 rfl ?_
          exact z_iretM E hr hlocks (mem) rfl ⟨(show fStanding mem t = 0 + 1 by unfold fStanding; rw [fCntC_0 c18_13, fCntC_0 c18_24, fCntC_0 c18_35, fCntC_1 c18_46]).symm, rfl⟩ (Nat.le_of_ble_eq_true rfl) (Nat.le_of_ble_eq_true rfl) dX3_standing_31
      · skip
        refine z_iinc (v := 1) (lv' := [(1, .int 1), (2, .int 2), (0, .ref (ad (87 + t)))]) E dX3_standing_21 (q := 1) rfl (by decide) (by decide) rfl ?_
        refine z_iinc (v := 3) (lv' := [(2, .int 3), (1, .int 1), (0, .ref (ad (87 + t)))]) E dX3_standing_24 (q := 1) rfl (by decide) (by decide) rfl ?_
        refine z_goto (tgt := 4) E dX3_standing_27 (by decide) ?_
        refine z_iload_n E dX3_standing_4 rfl 0 rfl ?_
        refine z_iconst (v := 4) E dX3_standing_5 (by decide) ?_
        refine z_icmp_ge_f (tgt := 30) E dX3_standing_6 (by decide) (by decide) ?_
        refine z_aload_n E dX3_standing_9 rfl 2 rfl ?_
        refine z_get E (87 + t) (cw_site ht) (C := RX3) (T := TX3) (N := 3) rfl (fun _ h => List.mem_cons_of_mem _ (List.mem_append_left _ (List.mem_append_right _ h))) 0 (by decide) (List.mem_of_getElem? (i := 1) (by decide +kernel)) rfl (v := .ref (ad (94 + t))) rfl dX3_standing_10 ?_
        refine z_iload_n E dX3_standing_13 rfl 0 rfl ?_
        refine z_aldq E (94 + t) 1 (C := "LadderClimb$Rig") (cw_rigs ht) rfl (zvin rfl) (v := .ref (ad (3 * (4 * t + 3)))) rfl dX3_standing_14 ?_
        refine z_callVi E hZ (k_stands l D ad cI cR cS cL mem (by omega)) gX3_standing_X2_stands (n := 0) rfl rfl rfl (by decide +kernel) rfl ⟨Nat.le_of_ble_eq_true rfl, Nat.le_of_ble_eq_true rfl⟩  (C := RX2) rfl (3 * (4 * t + 3)) (cw_rig (by omega)) (As := []) (rest := []) rfl (Nat.le_of_ble_eq_true rfl) ⟨Nat.le_of_ble_eq_true rfl, Nat.le_of_ble_eq_true rfl⟩ dX3_standing_15 (fun r u hp => ?_)
        rw [hp.1, hp.2]
        refine z_if_eq (tgt := 24) E dX3_standing_18 (by decide) (fun c18_73 => ?_) (fun c18_73 => ?_)
        · skip
          refine z_iinc (v := 4) (lv' := [(2, .int 4), (1, .int 1), (0, .ref (ad (87 + t)))]) E dX3_standing_24 (q := 0) rfl (by decide) (by decide) rfl ?_
          refine z_goto (tgt := 4) E dX3_standing_27 (by decide) ?_
          refine z_iload_n E dX3_standing_4 rfl 0 rfl ?_
          refine z_iconst (v := 4) E dX3_standing_5 (by decide) ?_
          refine z_icmp_ge_t (tgt := 30) E dX3_standing_6 (by decide) (by decide) ?_
          refine z_iload_n E dX3_standing_30 rfl 1 rfl ?_
          exact z_iretM E hr hlocks (mem) rfl ⟨(show fStanding mem t = 0 + 1 by unfold fStanding; rw [fCntC_0 c18_13, fCntC_0 c18_24, fCntC_1 c18_35, fCntC_0 c18_73]).symm, rfl⟩ (Nat.le_of_ble_eq_true rfl) (Nat.le_of_ble_eq_true rfl) dX3_standing_31
        · skip
          refine z_iinc (v := 2) (lv' := [(1, .int 2), (2, .int 3), (0, .ref (ad (87 + t)))]) E dX3_standing_21 (q := 1) rfl (by decide) (by decide) rfl ?_
          refine z_iinc (v := 4) (lv' := [(2, .int 4), (1, .int 2), (0, .ref (ad (87 + t)))]) E dX3_standing_24 (q := 1) rfl (by decide) (by decide) rfl ?_
          refine z_goto (tgt := 4) E dX3_standing_27 (by decide) ?_
          refine z_iload_n E dX3_standing_4 rfl 0 rfl ?_
          refine z_iconst (v := 4) E dX3_standing_5 (by decide) ?_
          refine z_icmp_ge_t (tgt := 30) E dX3_standing_6 (by decide) (by decide) ?_
          refine z_iload_n E dX3_standing_30 rfl 1 rfl ?_
          exact z_iretM E hr hlocks (mem) rfl ⟨(show fStanding mem t = 0 + 1 + 1 by unfold fStanding; rw [fCntC_0 c18_13, fCntC_0 c18_24, fCntC_1 c18_35, fCntC_1 c18_73]).symm, rfl⟩ (Nat.le_of_ble_eq_true rfl) (Nat.le_of_ble_eq_true rfl) dX3_standing_31
    · skip
      refine z_iinc (v := 1) (lv' := [(1, .int 1), (2, .int 1), (0, .ref (ad (87 + t)))]) E dX3_standing_21 (q := 1) rfl (by decide) (by decide) rfl ?_
      refine z_iinc (v := 2) (lv' := [(2, .int 2), (1, .int 1), (0, .ref (ad (87 + t)))]) E dX3_standing_24 (q := 1) rfl (by decide) (by decide) rfl ?_
      refine z_goto (tgt := 4) E dX3_standing_27 (by decide) ?_
      refine z_iload_n E dX3_standing_4 rfl 0 rfl ?_
      refine z_iconst (v := 4) E dX3_standing_5 (by decide) ?_
      refine z_icmp_ge_f (tgt := 30) E dX3_standing_6 (by decide) (by decide) ?_
      refine z_aload_n E dX3_standing_9 rfl 2 rfl ?_
      refine z_get E (87 + t) (cw_site ht) (C := RX3) (T := TX3) (N := 3) rfl (fun _ h => List.mem_cons_of_mem _ (List.mem_append_left _ (List.mem_append_right _ h))) 0 (by decide) (List.mem_of_getElem? (i := 1) (by decide +kernel)) rfl (v := .ref (ad (94 + t))) rfl dX3_standing_10 ?_
      refine z_iload_n E dX3_standing_13 rfl 0 rfl ?_
      refine z_aldq E (94 + t) 1 (C := "LadderClimb$Rig") (cw_rigs ht) rfl (zvin rfl) (v := .ref (ad (3 * (4 * t + 2)))) rfl dX3_standing_14 ?_
      refine z_callVi E hZ (k_stands l D ad cI cR cS cL mem (by omega)) gX3_standing_X2_stands (n := 0) rfl rfl rfl (by decide +kernel) rfl ⟨Nat.le_of_ble_eq_true rfl, Nat.le_of_ble_eq_true rfl⟩  (C := RX2) rfl (3 * (4 * t + 2)) (cw_rig (by omega)) (As := []) (rest := []) rfl (Nat.le_of_ble_eq_true rfl) ⟨Nat.le_of_ble_eq_true rfl, Nat.le_of_ble_eq_true rfl⟩ dX3_standing_15 (fun r u hp => ?_)
      rw [hp.1, hp.2]
      refine z_if_eq (tgt := 24) E dX3_standing_18 (by decide) (fun c18_100 => ?_) (fun c18_100 => ?_)
      · skip
        refine z_iinc (v := 3) (lv' := [(2, .int 3), (1, .int 1), (0, .ref (ad (87 + t)))]) E dX3_standing_24 (q := 0) rfl (by decide) (by decide) rfl ?_
        refine z_goto (tgt := 4) E dX3_standing_27 (by decide) ?_
        refine z_iload_n E dX3_standing_4 rfl 0 rfl ?_
        refine z_iconst (v := 4) E dX3_standing_5 (by decide) ?_
        refine z_icmp_ge_f (tgt := 30) E dX3_standing_6 (by decide) (by decide) ?_
        refine z_aload_n E dX3_standing_9 rfl 2 rfl ?_
        refine z_get E (87 + t) (cw_site ht) (C := RX3) (T := TX3) (N := 3) rfl (fun _ h => List.mem_cons_of_mem _ (List.mem_append_left _ (List.mem_append_right _ h))) 0 (by decide) (List.mem_of_getElem? (i := 1) (by decide +kernel)) rfl (v := .ref (ad (94 + t))) rfl dX3_standing_10 ?_
        refine z_iload_n E dX3_standing_13 rfl 0 rfl ?_
        refine z_aldq E (94 + t) 1 (C := "LadderClimb$Rig") (cw_rigs ht) rfl (zvin rfl) (v := .ref (ad (3 * (4 * t + 3)))) rfl dX3_standing_14 ?_
        refine z_callVi E hZ (k_stands l D ad cI cR cS cL mem (by omega)) gX3_standing_X2_stands (n := 0) rfl rfl rfl (by decide +kernel) rfl ⟨Nat.le_of_ble_eq_true rfl, Nat.le_of_ble_eq_true rfl⟩  (C := RX2) rfl (3 * (4 * t + 3)) (cw_rig (by omega)) (As := []) (rest := []) rfl (Nat.le_of_ble_eq_true rfl) ⟨Nat.le_of_ble_eq_true rfl, Nat.le_of_ble_eq_true rfl⟩ dX3_standing_15 (fun r u hp => ?_)
        rw [hp.1, hp.2]
        refine z_if_eq (tgt := 24) E dX3_standing_18 (by decide) (fun c18_111 => ?_) (fun c18_111 => ?_)
        · skip
          refine z_iinc (v := 4) (lv' := [(2, .int 4), (1, .int 1), (0, .ref (ad (87 + t)))]) E dX3_standing_24 (q := 0) rfl (by decide) (by decide) rfl ?_
          refine z_goto (tgt := 4) E dX3_standing_27 (by decide) ?_
          refine z_iload_n E dX3_standing_4 rfl 0 rfl ?_
          refine z_iconst (v := 4) E dX3_standing_5 (by decide) ?_
          refine z_icmp_ge_t (tgt := 30) E dX3_standing_6 (by decide) (by decide) ?_
          refine z_iload_n E dX3_standing_30 rfl 1 rfl ?_
          exact z_iretM E hr hlocks (mem) rfl ⟨(show fStanding mem t = 0 + 1 by unfold fStanding; rw [fCntC_0 c18_13, fCntC_1 c18_24, fCntC_0 c18_100, fCntC_0 c18_111]).symm, rfl⟩ (Nat.le_of_ble_eq_true rfl) (Nat.le_of_ble_eq_true rfl) dX3_standing_31
        · skip
          refine z_iinc (v := 2) (lv' := [(1, .int 2), (2, .int 3), (0, .ref (ad (87 + t)))]) E dX3_standing_21 (q := 1) rfl (by decide) (by decide) rfl ?_
          refine z_iinc (v := 4) (lv' := [(2, .int 4), (1, .int 2), (0, .ref (ad (87 + t)))]) E dX3_standing_24 (q := 1) rfl (by decide) (by decide) rfl ?_
          refine z_goto (tgt := 4) E dX3_standing_27 (by decide) ?_
          refine z_iload_n E dX3_standing_4 rfl 0 rfl ?_
          refine z_iconst (v := 4) E dX3_standing_5 (by decide) ?_
          refine z_icmp_ge_t (tgt := 30) E dX3_standing_6 (by decide) (by decide) ?_
          refine z_iload_n E dX3_standing_30 rfl 1 rfl ?_
          exact z_iretM E hr hlocks (mem) rfl ⟨(show fStanding mem t = 0 + 1 + 1 by unfold fStanding; rw [fCntC_0 c18_13, fCntC_1 c18_24, fCntC_0 c18_100, fCntC_1 c18_111]).symm, rfl⟩ (Nat.le_of_ble_eq_true rfl) (Nat.le_of_ble_eq_true rfl) dX3_standing_31
      · skip
        refine z_iinc (v := 2) (lv' := [(1, .int 2), (2, .int 2), (0, .ref (ad (87 + t)))]) E dX3_standing_21 (q := 1) rfl (by decide) (by decide) rfl ?_
        refine z_iinc (v := 3) (lv' := [(2, .int 3), (1, .int 2), (0, .ref (ad (87 + t)))]) E dX3_standing_24 (q := 1) rfl (by decide) (by decide) rfl ?_
        refine z_goto (tgt := 4) E dX3_standing_27 (by decide) ?_
        refine z_iload_n E dX3_standing_4 rfl 0 rfl ?_
        refine z_iconst (v := 4) E dX3_standing_5 (by decide) ?_
        refine z_icmp_ge_f (tgt := 30) E dX3_standing_6 (by decide) (by decide) ?_
        refine z_aload_n E dX3_standing_9 rfl 2 rfl ?_
        refine z_get E (87 + t) (cw_site ht) (C := RX3) (T := TX3) (N := 3) rfl (fun _ h => List.mem_cons_of_mem _ (List.mem_append_left _ (List.mem_append_right _ h))) 0 (by decide) (List.mem_of_getElem? (i := 1) (by decide +kernel)) rfl (v := .ref (ad (94 + t))) rfl dX3_standing_10 ?_
        refine z_iload_n E dX3_standing_13 rfl 0 rfl ?_
        refine z_aldq E (94 + t) 1 (C := "LadderClimb$Rig") (cw_rigs ht) rfl (zvin rfl) (v := .ref (ad (3 * (4 * t + 3)))) rfl dX3_standing_14 ?_
        refine z_callVi E hZ (k_stands l D ad cI cR cS cL mem (by omega)) gX3_standing_X2_stands (n := 0) rfl rfl rfl (by decide +kernel) rfl ⟨Nat.le_of_ble_eq_true rfl, Nat.le_of_ble_eq_true rfl⟩  (C := RX2) rfl (3 * (4 * t + 3)) (cw_rig (by omega)) (As := []) (rest := []) rfl (Nat.le_of_ble_eq_true rfl) ⟨Nat.le_of_ble_eq_true rfl, Nat.le_of_ble_eq_true rfl⟩ dX3_standing_15 (fun r u hp => ?_)
        rw [hp.1, hp.2]
        refine z_if_eq (tgt := 24) E dX3_standing_18 (by decide) (fun c18_138 => ?_) (fun c18_138 => ?_)
        · skip
          refine z_iinc (v := 4) (lv' := [(2, .int 4), (1, .int 2), (0, .ref (ad (87 + t)))]) E dX3_standing_24 (q := 0) rfl (by decide) (by decide) rfl ?_
          refine z_goto (tgt := 4) E dX3_standing_27 (by decide) ?_
          refine z_iload_n E dX3_standing_4 rfl 0 rfl ?_
          refine z_iconst (v := 4) E dX3_standing_5 (by decide) ?_
          refine z_icmp_ge_t (tgt := 30) E dX3_standing_6 (by decide) (by decide) ?_
          refine z_iload_n E dX3_standing_30 rfl 1 rfl ?_
          exact z_iretM E hr hlocks (mem) rfl ⟨(show fStanding mem t = 0 + 1 + 1 by unfold fStanding; rw [fCntC_0 c18_13, fCntC_1 c18_24, fCntC_1 c18_100, fCntC_0 c18_138]).symm, rfl⟩ (Nat.le_of_ble_eq_true rfl) (Nat.le_of_ble_eq_true rfl) dX3_standing_31
        · skip
          refine z_iinc (v := 3) (lv' := [(1, .int 3), (2, .int 3), (0, .ref (ad (87 + t)))]) E dX3_standing_21 (q := 1) rfl (by decide) (by decide) rfl ?_
          refine z_iinc (v := 4) (lv' := [(2, .int 4), (1, .int 3), (0, .ref (ad (87 + t)))]) E dX3_standing_24 (q := 1) rfl (by decide) (by decide) rfl ?_
          refine z_goto (tgt := 4) E dX3_standing_27 (by decide) ?_
          refine z_iload_n E dX3_standing_4 rfl 0 rfl ?_
          refine z_iconst (v := 4) E dX3_standing_5 (by decide) ?_
          refine z_icmp_ge_t (tgt := 30) E dX3_standing_6 (by decide) (by decide) ?_
          refine z_iload_n E dX3_standing_30 rfl 1 rfl ?_
          exact z_iretM E hr hlocks (mem) rfl ⟨(show fStanding mem t = 0 + 1 + 1 + 1 by unfold fStanding; rw [fCntC_0 c18_13, fCntC_1 c18_24, fCntC_1 c18_100, fCntC_1 c18_138]).symm, rfl⟩ (Nat.le_of_ble_eq_true rfl) (Nat.le_of_ble_eq_true rfl) dX3_standing_31
  · skip
    refine z_iinc (v := 1) (lv' := [(1, .int 1), (2, .int 0), (0, .ref (ad (87 + t)))]) E dX3_standing_21 (q := 1) rfl (by decide) (by decide) rfl ?_
    refine z_iinc (v := 1) (lv' := [(2, .int 1), (1, .int 1), (0, .ref (ad (87 + t)))]) E dX3_standing_24 (q := 1) rfl (by decide) (by decide) rfl ?_
    refine z_goto (tgt := 4) E dX3_standing_27 (by decide) ?_
    refine z_iload_n E dX3_standing_4 rfl 0 rfl ?_
    refine z_iconst (v := 4) E dX3_standing_5 (by decide) ?_
    refine z_icmp_ge_f (tgt := 30) E dX3_standing_6 (by decide) (by decide) ?_
    refine z_aload_n E dX3_standing_9 rfl 2 rfl ?_
    refine z_get E (87 + t) (cw_site ht) (C := RX3) (T := TX3) (N := 3) rfl (fun _ h => List.mem_cons_of_mem _ (List.mem_append_left _ (List.mem_append_right _ h))) 0 (by decide) (List.mem_of_getElem? (i := 1) (by decide +kernel)) rfl (v := .ref (ad (94 + t))) rfl dX3_standing_10 ?_
    refine z_iload_n E dX3_standing_13 rfl 0 rfl ?_
    refine z_aldq E (94 + t) 1 (C := "LadderClimb$Rig") (cw_rigs ht) rfl (zvin rfl) (v := .ref (ad (3 * (4 * t + 1)))) rfl dX3_standing_14 ?_
    refine z_callVi E hZ (k_stands l D ad cI cR cS cL mem (by omega)) gX3_standing_X2_stands (n := 0) rfl rfl rfl (by decide +kernel) rfl ⟨Nat.le_of_ble_eq_true rfl, Nat.le_of_ble_eq_true rfl⟩  (C := RX2) rfl (3 * (4 * t + 1)) (cw_rig (by omega)) (As := []) (rest := []) rfl (Nat.le_of_ble_eq_true rfl) ⟨Nat.le_of_ble_eq_true rfl, Nat.le_of_ble_eq_true rfl⟩ dX3_standing_15 (fun r u hp => ?_)
    rw [hp.1, hp.2]
    refine z_if_eq (tgt := 24) E dX3_standing_18 (by decide) (fun c18_165 => ?_) (fun c18_165 => ?_)
    · skip
      refine z_iinc (v := 2) (lv' := [(2, .int 2), (1, .int 1), (0, .ref (ad (87 + t)))]) E dX3_standing_24 (q := 0) rfl (by decide) (by decide) rfl ?_
      refine z_goto (tgt := 4) E dX3_standing_27 (by decide) ?_
      refine z_iload_n E dX3_standing_4 rfl 0 rfl ?_
      refine z_iconst (v := 4) E dX3_standing_5 (by decide) ?_
      refine z_icmp_ge_f (tgt := 30) E dX3_standing_6 (by decide) (by decide) ?_
      refine z_aload_n E dX3_standing_9 rfl 2 rfl ?_
      refine z_get E (87 + t) (cw_site ht) (C := RX3) (T := TX3) (N := 3) rfl (fun _ h => List.mem_cons_of_mem _ (List.mem_append_left _ (List.mem_append_right _ h))) 0 (by decide) (List.mem_of_getElem? (i := 1) (by decide +kernel)) rfl (v := .ref (ad (94 + t))) rfl dX3_standing_10 ?_
      refine z_iload_n E dX3_standing_13 rfl 0 rfl ?_
      refine z_aldq E (94 + t) 1 (C := "LadderClimb$Rig") (cw_rigs ht) rfl (zvin rfl) (v := .ref (ad (3 * (4 * t + 2)))) rfl dX3_standing_14 ?_
      refine z_callVi E hZ (k_stands l D ad cI cR cS cL mem (by omega)) gX3_standing_X2_stands (n := 0) rfl rfl rfl (by decide +kernel) rfl ⟨Nat.le_of_ble_eq_true rfl, Nat.le_of_ble_eq_true rfl⟩  (C := RX2) rfl (3 * (4 * t + 2)) (cw_rig (by omega)) (As := []) (rest := []) rfl (Nat.le_of_ble_eq_true rfl) ⟨Nat.le_of_ble_eq_true rfl, Nat.le_of_ble_eq_true rfl⟩ dX3_standing_15 (fun r u hp => ?_)
      rw [hp.1, hp.2]
      refine z_if_eq (tgt := 24) E dX3_standing_18 (by decide) (fun c18_176 => ?_) (fun c18_176 => ?_)
      · skip
        refine z_iinc (v := 3) (lv' := [(2, .int 3), (1, .int 1), (0, .ref (ad (87 + t)))]) E dX3_standing_24 (q := 0) rfl (by decide) (by decide) rfl ?_
        refine z_goto (tgt := 4) E dX3_standing_27 (by decide) ?_
        refine z_iload_n E dX3_standing_4 rfl 0 rfl ?_
        refine z_iconst (v := 4) E dX3_standing_5 (by decide) ?_
        refine z_icmp_ge_f (tgt := 30) E dX3_standing_6 (by decide) (by decide) ?_
        refine z_aload_n E dX3_standing_9 rfl 2 rfl ?_
        refine z_get E (87 + t) (cw_site ht) (C := RX3) (T := TX3) (N := 3) rfl (fun _ h => List.mem_cons_of_mem _ (List.mem_append_left _ (List.mem_append_right _ h))) 0 (by decide) (List.mem_of_getElem? (i := 1) (by decide +kernel)) rfl (v := .ref (ad (94 + t))) rfl dX3_standing_10 ?_
        refine z_iload_n E dX3_standing_13 rfl 0 rfl ?_
        refine z_aldq E (94 + t) 1 (C := "LadderClimb$Rig") (cw_rigs ht) rfl (zvin rfl) (v := .ref (ad (3 * (4 * t + 3)))) rfl dX3_standing_14 ?_
        refine z_callVi E hZ (k_stands l D ad cI cR cS cL mem (by omega)) gX3_standing_X2_stands (n := 0) rfl rfl rfl (by decide +kernel) rfl ⟨Nat.le_of_ble_eq_true rfl, Nat.le_of_ble_eq_true rfl⟩  (C := RX2) rfl (3 * (4 * t + 3)) (cw_rig (by omega)) (As := []) (rest := []) rfl (Nat.le_of_ble_eq_true rfl) ⟨Nat.le_of_ble_eq_true rfl, Nat.le_of_ble_eq_true rfl⟩ dX3_standing_15 (fun r u hp => ?_)
        rw [hp.1, hp.2]
        refine z_if_eq (tgt := 24) E dX3_standing_18 (by decide) (fun c18_187 => ?_) (fun c18_187 => ?_)
        · skip
          refine z_iinc (v := 4) (lv' := [(2, .int 4), (1, .int 1), (0, .ref (ad (87 + t)))]) E dX3_standing_24 (q := 0) rfl (by decide) (by decide) rfl ?_
          refine z_goto (tgt := 4) E dX3_standing_27 (by decide) ?_
          refine z_iload_n E dX3_standing_4 rfl 0 rfl ?_
          refine z_iconst (v := 4) E dX3_standing_5 (by decide) ?_
          refine z_icmp_ge_t (tgt := 30) E dX3_standing_6 (by decide) (by decide) ?_
          refine z_iload_n E dX3_standing_30 rfl 1 rfl ?_
          exact z_iretM E hr hlocks (mem) rfl ⟨(show fStanding mem t = 0 + 1 by unfold fStanding; rw [fCntC_1 c18_13, fCntC_0 c18_165, fCntC_0 c18_176, fCntC_0 c18_187]).symm, rfl⟩ (Nat.le_of_ble_eq_true rfl) (Nat.le_of_ble_eq_true rfl) dX3_standing_31
        · skip
          refine z_iinc (v := 2) (lv' := [(1, .int 2), (2, .int 3), (0, .ref (ad (87 + t)))]) E dX3_standing_21 (q := 1) rfl (by decide) (by decide) rfl ?_
          refine z_iinc (v := 4) (lv' := [(2, .int 4), (1, .int 2), (0, .ref (ad (87 + t)))]) E dX3_standing_24 (q := 1) rfl (by decide) (by decide) rfl ?_
          refine z_goto (tgt := 4) E dX3_standing_27 (by decide) ?_
          refine z_iload_n E dX3_standing_4 rfl 0 rfl ?_
          refine z_iconst (v := 4) E dX3_standing_5 (by decide) ?_
          refine z_icmp_ge_t (tgt := 30) E dX3_standing_6 (by decide) (by decide) ?_
          refine z_iload_n E dX3_standing_30 rfl 1 rfl ?_
          exact z_iretM E hr hlocks (mem) rfl ⟨(show fStanding mem t = 0 + 1 + 1 by unfold fStanding; rw [fCntC_1 c18_13, fCntC_0 c18_165, fCntC_0 c18_176, fCntC_1 c18_187]).symm, rfl⟩ (Nat.le_of_ble_eq_true rfl) (Nat.le_of_ble_eq_true rfl) dX3_standing_31
      · skip
        refine z_iinc (v := 2) (lv' := [(1, .int 2), (2, .int 2), (0, .ref (ad (87 + t)))]) E dX3_standing_21 (q := 1) rfl (by decide) (by decide) rfl ?_
        refine z_iinc (v := 3) (lv' := [(2, .int 3), (1, .int 2), (0, .ref (ad (87 + t)))]) E dX3_standing_24 (q := 1) rfl (by decide) (by decide) rfl ?_
        refine z_goto (tgt := 4) E dX3_standing_27 (by decide) ?_
        refine z_iload_n E dX3_standing_4 rfl 0 rfl ?_
        refine z_iconst (v := 4) E dX3_standing_5 (by decide) ?_
        refine z_icmp_ge_f (tgt := 30) E dX3_standing_6 (by decide) (by decide) ?_
        refine z_aload_n E dX3_standing_9 rfl 2 rfl ?_
        refine z_get E (87 + t) (cw_site ht) (C := RX3) (T := TX3) (N := 3) rfl (fun _ h => List.mem_cons_of_mem _ (List.mem_append_left _ (List.mem_append_right _ h))) 0 (by decide) (List.mem_of_getElem? (i := 1) (by decide +kernel)) rfl (v := .ref (ad (94 + t))) rfl dX3_standing_10 ?_
        refine z_iload_n E dX3_standing_13 rfl 0 rfl ?_
        refine z_aldq E (94 + t) 1 (C := "LadderClimb$Rig") (cw_rigs ht) rfl (zvin rfl) (v := .ref (ad (3 * (4 * t + 3)))) rfl dX3_standing_14 ?_
        refine z_callVi E hZ (k_stands l D ad cI cR cS cL mem (by omega)) gX3_standing_X2_stands (n := 0) rfl rfl rfl (by decide +kernel) rfl ⟨Nat.le_of_ble_eq_true rfl, Nat.le_of_ble_eq_true rfl⟩  (C := RX2) rfl (3 * (4 * t + 3)) (cw_rig (by omega)) (As := []) (rest := []) rfl (Nat.le_of_ble_eq_true rfl) ⟨Nat.le_of_ble_eq_true rfl, Nat.le_of_ble_eq_true rfl⟩ dX3_standing_15 (fun r u hp => ?_)
        rw [hp.1, hp.2]
        refine z_if_eq (tgt := 24) E dX3_standing_18 (by decide) (fun c18_214 => ?_) (fun c18_214 => ?_)
        · skip
          refine z_iinc (v := 4) (lv' := [(2, .int 4), (1, .int 2), (0, .ref (ad (87 + t)))]) E dX3_standing_24 (q := 0) rfl (by decide) (by decide) rfl ?_
          refine z_goto (tgt := 4) E dX3_standing_27 (by decide) ?_
          refine z_iload_n E dX3_standing_4 rfl 0 rfl ?_
          refine z_iconst (v := 4) E dX3_standing_5 (by decide) ?_
          refine z_icmp_ge_t (tgt := 30) E dX3_standing_6 (by decide) (by decide) ?_
          refine z_iload_n E dX3_standing_30 rfl 1 rfl ?_
          exact z_iretM E hr hlocks (mem) rfl ⟨(show fStanding mem t = 0 + 1 + 1 by unfold fStanding; rw [fCntC_1 c18_13, fCntC_0 c18_165, fCntC_1 c18_176, fCntC_0 c18_214]).symm, rfl⟩ (Nat.le_of_ble_eq_true rfl) (Nat.le_of_ble_eq_true rfl) dX3_standing_31
        · skip
          refine z_iinc (v := 3) (lv' := [(1, .int 3), (2, .int 3), (0, .ref (ad (87 + t)))]) E dX3_standing_21 (q := 1) rfl (by decide) (by decide) rfl ?_
          refine z_iinc (v := 4) (lv' := [(2, .int 4), (1, .int 3), (0, .ref (ad (87 + t)))]) E dX3_standing_24 (q := 1) rfl (by decide) (by decide) rfl ?_
          refine z_goto (tgt := 4) E dX3_standing_27 (by decide) ?_
          refine z_iload_n E dX3_standing_4 rfl 0 rfl ?_
          refine z_iconst (v := 4) E dX3_standing_5 (by decide) ?_
          refine z_icmp_ge_t (tgt := 30) E dX3_standing_6 (by decide) (by decide) ?_
          refine z_iload_n E dX3_standing_30 rfl 1 rfl ?_
          exact z_iretM E hr hlocks (mem) rfl ⟨(show fStanding mem t = 0 + 1 + 1 + 1 by unfold fStanding; rw [fCntC_1 c18_13, fCntC_0 c18_165, fCntC_1 c18_176, fCntC_1 c18_214]).symm, rfl⟩ (Nat.le_of_ble_eq_true rfl) (Nat.le_of_ble_eq_true rfl) dX3_standing_31
    · skip
      refine z_iinc (v := 2) (lv' := [(1, .int 2), (2, .int 1), (0, .ref (ad (87 + t)))]) E dX3_standing_21 (q := 1) rfl (by decide) (by decide) rfl ?_
      refine z_iinc (v := 2) (lv' := [(2, .int 2), (1, .int 2), (0, .ref (ad (87 + t)))]) E dX3_standing_24 (q := 1) rfl (by decide) (by decide) rfl ?_
      refine z_goto (tgt := 4) E dX3_standing_27 (by decide) ?_
      refine z_iload_n E dX3_standing_4 rfl 0 rfl ?_
      refine z_iconst (v := 4) E dX3_standing_5 (by decide) ?_
      refine z_icmp_ge_f (tgt := 30) E dX3_standing_6 (by decide) (by decide) ?_
      refine z_aload_n E dX3_standing_9 rfl 2 rfl ?_
      refine z_get E (87 + t) (cw_site ht) (C := RX3) (T := TX3) (N := 3) rfl (fun _ h => List.mem_cons_of_mem _ (List.mem_append_left _ (List.mem_append_right _ h))) 0 (by decide) (List.mem_of_getElem? (i := 1) (by decide +kernel)) rfl (v := .ref (ad (94 + t))) rfl dX3_standing_10 ?_
      refine z_iload_n E dX3_standing_13 rfl 0 rfl ?_
      refine z_aldq E (94 + t) 1 (C := "LadderClimb$Rig") (cw_rigs ht) rfl (zvin rfl) (v := .ref (ad (3 * (4 * t + 2)))) rfl dX3_standing_14 ?_
      refine z_callVi E hZ (k_stands l D ad cI cR cS cL mem (by omega)) gX3_standing_X2_stands (n := 0) rfl rfl rfl (by decide +kernel) rfl ⟨Nat.le_of_ble_eq_true rfl, Nat.le_of_ble_eq_true rfl⟩  (C := RX2) rfl (3 * (4 * t + 2)) (cw_rig (by omega)) (As := []) (rest := []) rfl (Nat.le_of_ble_eq_true rfl) ⟨Nat.le_of_ble_eq_true rfl, Nat.le_of_ble_eq_true rfl⟩ dX3_standing_15 (fun r u hp => ?_)
      rw [hp.1, hp.2]
      refine z_if_eq (tgt := 24) E dX3_standing_18 (by decide) (fun c18_241 => ?_) (fun c18_241 => ?_)
      · skip
        refine z_iinc (v := 3) (lv' := [(2, .int 3), (1, .int 2), (0, .ref (ad (87 + t)))]) E dX3_standing_24 (q := 0) rfl (by decide) (by decide) rfl ?_
        refine z_goto (tgt := 4) E dX3_standing_27 (by decide) ?_
        refine z_iload_n E dX3_standing_4 rfl 0 rfl ?_
        refine z_iconst (v := 4) E dX3_standing_5 (by decide) ?_
        refine z_icmp_ge_f (tgt := 30) E dX3_standing_6 (by decide) (by decide) ?_
        refine z_aload_n E dX3_standing_9 rfl 2 rfl ?_
        refine z_get E (87 + t) (cw_site ht) (C := RX3) (T := TX3) (N := 3) rfl (fun _ h => List.mem_cons_of_mem _ (List.mem_append_left _ (List.mem_append_right _ h))) 0 (by decide) (List.mem_of_getElem? (i := 1) (by decide +kernel)) rfl (v := .ref (ad (94 + t))) rfl dX3_standing_10 ?_
        refine z_iload_n E dX3_standing_13 rfl 0 rfl ?_
        refine z_aldq E (94 + t) 1 (C := "LadderClimb$Rig") (cw_rigs ht) rfl (zvin rfl) (v := .ref (ad (3 * (4 * t + 3)))) rfl dX3_standing_14 ?_
        refine z_callVi E hZ (k_stands l D ad cI cR cS cL mem (by omega)) gX3_standing_X2_stands (n := 0) rfl rfl rfl (by decide +kernel) rfl ⟨Nat.le_of_ble_eq_true rfl, Nat.le_of_ble_eq_true rfl⟩  (C := RX2) rfl (3 * (4 * t + 3)) (cw_rig (by omega)) (As := []) (rest := []) rfl (Nat.le_of_ble_eq_true rfl) ⟨Nat.le_of_ble_eq_true rfl, Nat.le_of_ble_eq_true rfl⟩ dX3_standing_15 (fun r u hp => ?_)
        rw [hp.1, hp.2]
        refine z_if_eq (tgt := 24) E dX3_standing_18 (by decide) (fun c18_252 => ?_) (fun c18_252 => ?_)
        · skip
          refine z_iinc (v := 4) (lv' := [(2, .int 4), (1, .int 2), (0, .ref (ad (87 + t)))]) E dX3_standing_24 (q := 0) rfl (by decide) (by decide) rfl ?_
          refine z_goto (tgt := 4) E dX3_standing_27 (by decide) ?_
          refine z_iload_n E dX3_standing_4 rfl 0 rfl ?_
          refine z_iconst (v := 4) E dX3_standing_5 (by decide) ?_
          refine z_icmp_ge_t (tgt := 30) E dX3_standing_6 (by decide) (by decide) ?_
          refine z_iload_n E dX3_standing_30 rfl 1 rfl ?_
          exact z_iretM E hr hlocks (mem) rfl ⟨(show fStanding mem t = 0 + 1 + 1 by unfold fStanding; rw [fCntC_1 c18_13, fCntC_1 c18_165, fCntC_0 c18_241, fCntC_0 c18_252]).symm, rfl⟩ (Nat.le_of_ble_eq_true rfl) (Nat.le_of_ble_eq_true rfl) dX3_standing_31
        · skip
          refine z_iinc (v := 3) (lv' := [(1, .int 3), (2, .int 3), (0, .ref (ad (87 + t)))]) E dX3_standing_21 (q := 1) rfl (by decide) (by decide) rfl ?_
          refine z_iinc (v := 4) (lv' := [(2, .int 4), (1, .int 3), (0, .ref (ad (87 + t)))]) E dX3_standing_24 (q := 1) rfl (by decide) (by decide) rfl ?_
          refine z_goto (tgt := 4) E dX3_standing_27 (by decide) ?_
          refine z_iload_n E dX3_standing_4 rfl 0 rfl ?_
          refine z_iconst (v := 4) E dX3_standing_5 (by decide) ?_
          refine z_icmp_ge_t (tgt := 30) E dX3_standing_6 (by decide) (by decide) ?_
          refine z_iload_n E dX3_standing_30 rfl 1 rfl ?_
          exact z_iretM E hr hlocks (mem) rfl ⟨(show fStanding mem t = 0 + 1 + 1 + 1 by unfold fStanding; rw [fCntC_1 c18_13, fCntC_1 c18_165, fCntC_0 c18_241, fCntC_1 c18_252]).symm, rfl⟩ (Nat.le_of_ble_eq_true rfl) (Nat.le_of_ble_eq_true rfl) dX3_standing_31
      · skip
        refine z_iinc (v := 3) (lv' := [(1, .int 3), (2, .int 2), (0, .ref (ad (87 + t)))]) E dX3_standing_21 (q := 1) rfl (by decide) (by decide) rfl ?_
        refine z_iinc (v := 3) (lv' := [(2, .int 3), (1, .int 3), (0, .ref (ad (87 + t)))]) E dX3_standing_24 (q := 1) rfl (by decide) (by decide) rfl ?_
        refine z_goto (tgt := 4) E dX3_standing_27 (by decide) ?_
        refine z_iload_n E dX3_standing_4 rfl 0 rfl ?_
        refine z_iconst (v := 4) E dX3_standing_5 (by decide) ?_
        refine z_icmp_ge_f (tgt := 30) E dX3_standing_6 (by decide) (by decide) ?_
        refine z_aload_n E dX3_standing_9 rfl 2 rfl ?_
        refine z_get E (87 + t) (cw_site ht) (C := RX3) (T := TX3) (N := 3) rfl (fun _ h => List.mem_cons_of_mem _ (List.mem_append_left _ (List.mem_append_right _ h))) 0 (by decide) (List.mem_of_getElem? (i := 1) (by decide +kernel)) rfl (v := .ref (ad (94 + t))) rfl dX3_standing_10 ?_
        refine z_iload_n E dX3_standing_13 rfl 0 rfl ?_
        refine z_aldq E (94 + t) 1 (C := "LadderClimb$Rig") (cw_rigs ht) rfl (zvin rfl) (v := .ref (ad (3 * (4 * t + 3)))) rfl dX3_standing_14 ?_
        refine z_callVi E hZ (k_stands l D ad cI cR cS cL mem (by omega)) gX3_standing_X2_stands (n := 0) rfl rfl rfl (by decide +kernel) rfl ⟨Nat.le_of_ble_eq_true rfl, Nat.le_of_ble_eq_true rfl⟩  (C := RX2) rfl (3 * (4 * t + 3)) (cw_rig (by omega)) (As := []) (rest := []) rfl (Nat.le_of_ble_eq_true rfl) ⟨Nat.le_of_ble_eq_true rfl, Nat.le_of_ble_eq_true rfl⟩ dX3_standing_15 (fun r u hp => ?_)
        rw [hp.1, hp.2]
        refine z_if_eq (tgt := 24) E dX3_standing_18 (by decide) (fun c18_279 => ?_) (fun c18_279 => ?_)
        · skip
          refine z_iinc (v := 4) (lv' := [(2, .int 4), (1, .int 3), (0, .ref (ad (87 + t)))]) E dX3_standing_24 (q := 0) rfl (by decide) (by decide) rfl ?_
          refine z_goto (tgt := 4) E dX3_standing_27 (by decide) ?_
          refine z_iload_n E dX3_standing_4 rfl 0 rfl ?_
          refine z_iconst (v := 4) E dX3_standing_5 (by decide) ?_
          refine z_icmp_ge_t (tgt := 30) E dX3_standing_6 (by decide) (by decide) ?_
          refine z_iload_n E dX3_standing_30 rfl 1 rfl ?_
          exact z_iretM E hr hlocks (mem) rfl ⟨(show fStanding mem t = 0 + 1 + 1 + 1 by unfold fStanding; rw [fCntC_1 c18_13, fCntC_1 c18_165, fCntC_1 c18_241, fCntC_0 c18_279]).symm, rfl⟩ (Nat.le_of_ble_eq_true rfl) (Nat.le_of_ble_eq_true rfl) dX3_standing_31
        · skip
          refine z_iinc (v := 4) (lv' := [(1, .int 4), (2, .int 3), (0, .ref (ad (87 + t)))]) E dX3_standing_21 (q := 1) rfl (by decide) (by decide) rfl ?_
          refine z_iinc (v := 4) (lv' := [(2, .int 4), (1, .int 4), (0, .ref (ad (87 + t)))]) E dX3_standing_24 (q := 1) rfl (by decide) (by decide) rfl ?_
          refine z_goto (tgt := 4) E dX3_standing_27 (by decide) ?_
          refine z_iload_n E dX3_standing_4 rfl 0 rfl ?_
          refine z_iconst (v := 4) E dX3_standing_5 (by decide) ?_
          refine z_icmp_ge_t (tgt := 30) E dX3_standing_6 (by decide) (by decide) ?_
          refine z_iload_n E dX3_standing_30 rfl 1 rfl ?_
          exact z_iretM E hr hlocks (mem) rfl ⟨(show fStanding mem t = 0 + 1 + 1 + 1 + 1 by unfold fStanding; rw [fCntC_1 c18_13, fCntC_1 c18_165, fCntC_1 c18_241, fCntC_1 c18_279]).symm, rfl⟩ (Nat.le_of_ble_eq_true rfl) (Nat.le_of_ble_eq_true rfl) dX3_standing_31
set_option maxHeartbeats 1000000 in
set_option maxRecDepth 100000 in
theorem k_people (l : Launch) (D : va_G) (ad : Nat → Nat) (cI cR cS cL : ClassId) (mem : zM) {t : Nat} (ht : t < 7) : zMi l yX3_people wsX3_people ({ frames := 0, cells := 0, slots := 0, locals := 0 }) D (cK cI cR cS cL) [.ref (ad (87 + t))] (cw ad cI cR cS mem) (fun r u => r = fPeople mem t ∧ u = mem) (cw ad cI cR cS) 0 0 := by
  refine zMiM.of (cc := cX3_people) (maxL := 3) (ret := (some .int)) (by decide +kernel) rfl (lv0 := [(0, .ref (ad (87 + t)))]) (Nat.le_of_ble_eq_true rfl) rfl ?_
  intro p e s m args below meth c E hZ hr hlocks hnm
  refine z_iconst (v := 0) E dX3_people_0 (by decide) ?_
  refine z_istore_n (lv' := [(1, .int 0), (0, .ref (ad (87 + t)))]) E dX3_people_1 rfl (by decide) rfl ?_
  refine z_iconst (v := 0) E dX3_people_2 (by decide) ?_
  refine z_istore_n (lv' := [(2, .int 0), (1, .int 0), (0, .ref (ad (87 + t)))]) E dX3_people_3 rfl (by decide) rfl ?_
  refine z_iload_n E dX3_people_4 rfl 0 rfl ?_
  refine z_iconst (v := 4) E dX3_people_5 (by decide) ?_
  refine z_icmp_ge_f (tgt := 27) E dX3_people_6 (by decide) (by decide) ?_
  refine z_iload_n E dX3_people_9 rfl 1 rfl ?_
  refine z_aload_n E dX3_people_10 rfl 2 rfl ?_
  refine z_get E (87 + t) (cw_site ht) (C := RX3) (T := TX3) (N := 3) rfl (fun _ h => List.mem_cons_of_mem _ (List.mem_append_left _ (List.mem_append_right _ h))) 0 (by decide) (List.mem_of_getElem? (i := 1) (by decide +kernel)) rfl (v := .ref (ad (94 + t))) rfl dX3_people_11 ?_
  refine z_iload_n E dX3_people_14 rfl 0 rfl ?_
  refine z_aldq E (94 + t) 1 (C := "LadderClimb$Rig") (cw_rigs ht) rfl (zvin rfl) (v := .ref (ad (3 * (4 * t + 0)))) rfl dX3_people_15 ?_
  refine z_get E (3 * (4 * t + 0)) (cw_rig (by omega)) (C := RX2) (T := TX2) (N := 10) rfl (fun _ h => List.mem_cons_of_mem _ (List.mem_append_right _ h)) 7 (by decide) (List.mem_of_getElem? (i := 2) (by decide +kernel)) rfl (v := .int (mem (3 * (4 * t + 0)) 7)) rfl dX3_people_16 ?_
  refine z_iadd E dX3_people_19 ?_
  refine z_istore_n (lv' := [(1, .int (0 + (mem (3 * (4 * t + 0)) 7))), (2, .int 0), (0, .ref (ad (87 + t)))]) E dX3_people_20 rfl (by decide) rfl ?_
  refine z_iinc (v := 1) (lv' := [(2, .int 1), (1, .int (0 + (mem (3 * (4 * t + 0)) 7))), (0, .ref (ad (87 + t)))]) E dX3_people_21 (q := 1) rfl (by decide) (by decide) rfl ?_
  refine z_goto (tgt := 4) E dX3_people_24 (by decide) ?_
  refine z_iload_n E dX3_people_4 rfl 0 rfl ?_
  refine z_iconst (v := 4) E dX3_people_5 (by decide) ?_
  refine z_icmp_ge_f (tgt := 27) E dX3_people_6 (by decide) (by decide) ?_
  refine z_iload_n E dX3_people_9 rfl 1 rfl ?_
  refine z_aload_n E dX3_people_10 rfl 2 rfl ?_
  refine z_get E (87 + t) (cw_site ht) (C := RX3) (T := TX3) (N := 3) rfl (fun _ h => List.mem_cons_of_mem _ (List.mem_append_left _ (List.mem_append_right _ h))) 0 (by decide) (List.mem_of_getElem? (i := 1) (by decide +kernel)) rfl (v := .ref (ad (94 + t))) rfl dX3_people_11 ?_
  refine z_iload_n E dX3_people_14 rfl 0 rfl ?_
  refine z_aldq E (94 + t) 1 (C := "LadderClimb$Rig") (cw_rigs ht) rfl (zvin rfl) (v := .ref (ad (3 * (4 * t + 1)))) rfl dX3_people_15 ?_
  refine z_get E (3 * (4 * t + 1)) (cw_rig (by omega)) (C := RX2) (T := TX2) (N := 10) rfl (fun _ h => List.mem_cons_of_mem _ (List.mem_append_right _ h)) 7 (by decide) (List.mem_of_getElem? (i := 2) (by decide +kernel)) rfl (v := .int (mem (3 * (4 * t + 1)) 7)) rfl dX3_people_16 ?_
  refine z_iadd E dX3_people_19 ?_
  refine z_istore_n (lv' := [(1, .int ((0 + (mem (3 * (4 * t + 0)) 7)) + (mem (3 * (4 * t + 1)) 7))), (2, .int 1), (0, .ref (ad (87 + t)))]) E dX3_people_20 rfl (by decide) rfl ?_
  refine z_iinc (v := 2) (lv' := [(2, .int 2), (1, .int ((0 + (mem (3 * (4 * t + 0)) 7)) + (mem (3 * (4 * t + 1)) 7))), (0, .ref (ad (87 + t)))]) E dX3_people_21 (q := 1) rfl (by decide) (by decide) rfl ?_
  refine z_goto (tgt := 4) E dX3_people_24 (by decide) ?_
  refine z_iload_n E dX3_people_4 rfl 0 rfl ?_
  refine z_iconst (v := 4) E dX3_people_5 (by decide) ?_
  refine z_icmp_ge_f (tgt := 27) E dX3_people_6 (by decide) (by decide) ?_
  refine z_iload_n E dX3_people_9 rfl 1 rfl ?_
  refine z_aload_n E dX3_people_10 rfl 2 rfl ?_
  refine z_get E (87 + t) (cw_site ht) (C := RX3) (T := TX3) (N := 3) rfl (fun _ h => List.mem_cons_of_mem _ (List.mem_append_left _ (List.mem_append_right _ h))) 0 (by decide) (List.mem_of_getElem? (i := 1) (by decide +kernel)) rfl (v := .ref (ad (94 + t))) rfl dX3_people_11 ?_
  refine z_iload_n E dX3_people_14 rfl 0 rfl ?_
  refine z_aldq E (94 + t) 1 (C := "LadderClimb$Rig") (cw_rigs ht) rfl (zvin rfl) (v := .ref (ad (3 * (4 * t + 2)))) rfl dX3_people_15 ?_
  refine z_get E (3 * (4 * t + 2)) (cw_rig (by omega)) (C := RX2) (T := TX2) (N := 10) rfl (fun _ h => List.mem_cons_of_mem _ (List.mem_append_right _ h)) 7 (by decide) (List.mem_of_getElem? (i := 2) (by decide +kernel)) rfl (v := .int (mem (3 * (4 * t + 2)) 7)) rfl dX3_people_16 ?_
  refine z_iadd E dX3_people_19 ?_
  refine z_istore_n (lv' := [(1, .int (((0 + (mem (3 * (4 * t + 0)) 7)) + (mem (3 * (4 * t + 1)) 7)) + (mem (3 * (4 * t + 2)) 7))), (2, .int 2), (0, .ref (ad (87 + t)))]) E dX3_people_20 rfl (by decide) rfl ?_
  refine z_iinc (v := 3) (lv' := [(2, .int 3), (1, .int (((0 + (mem (3 * (4 * t + 0)) 7)) + (mem (3 * (4 * t + 1)) 7)) + (mem (3 * (4 * t + 2)) 7))), (0, .ref (ad (87 + t)))]) E dX3_people_21 (q := 1) rfl (by decide) (by decide) rfl ?_
  refine z_goto (tgt := 4) E dX3_people_24 (by decide) ?_
  refine z_iload_n E dX3_people_4 rfl 0 rfl ?_
  refine z_iconst (v := 4) E dX3_people_5 (by decide) ?_
  refine z_icmp_ge_f (tgt := 27) E dX3_people_6 (by decide) (by decide) ?_
  refine z_iload_n E dX3_people_9 rfl 1 rfl ?_
  refine z_aload_n E dX3_people_10 rfl 2 rfl ?_
  refine z_get E (87 + t) (cw_site ht) (C := RX3) (T := TX3) (N := 3) rfl (fun _ h => List.mem_cons_of_mem _ (List.mem_append_left _ (List.mem_append_right _ h))) 0 (by decide) (List.mem_of_getElem? (i := 1) (by decide +kernel)) rfl (v := .ref (ad (94 + t))) rfl dX3_people_11 ?_
  refine z_iload_n E dX3_people_14 rfl 0 rfl ?_
  refine z_aldq E (94 + t) 1 (C := "LadderClimb$Rig") (cw_rigs ht) rfl (zvin rfl) (v := .ref (ad (3 * (4 * t + 3)))) rfl dX3_people_15 ?_
  refine z_get E (3 * (4 * t + 3)) (cw_rig (by omega)) (C := RX2) (T := TX2) (N := 10) rfl (fun _ h => List.mem_cons_of_mem _ (List.mem_append_right _ h)) 7 (by decide) (List.mem_of_getElem? (i := 2) (by decide +kernel)) rfl (v := .int (mem (3 * (4 * t + 3)) 7)) rfl dX3_people_16 ?_
  refine z_iadd E dX3_people_19 ?_
  refine z_istore_n (lv' := [(1, .int ((((0 + (mem (3 * (4 * t + 0)) 7)) + (mem (3 * (4 * t + 1)) 7)) + (mem (3 * (4 * t + 2)) 7)) + (mem (3 * (4 * t + 3)) 7))), (2, .int 3), (0, .ref (ad (87 + t)))]) E dX3_people_20 rfl (by decide) rfl ?_
  refine z_iinc (v := 4) (lv' := [(2, .int 4), (1, .int ((((0 + (mem (3 * (4 * t + 0)) 7)) + (mem (3 * (4 * t + 1)) 7)) + (mem (3 * (4 * t + 2)) 7)) + (mem (3 * (4 * t + 3)) 7))), (0, .ref (ad (87 + t)))]) E dX3_people_21 (q := 1) rfl (by decide) (by decide) rfl ?_
  refine z_goto (tgt := 4) E dX3_people_24 (by decide) ?_
  refine z_iload_n E dX3_people_4 rfl 0 rfl ?_
  refine z_iconst (v := 4) E dX3_people_5 (by decide) ?_
  refine z_icmp_ge_t (tgt := 27) E dX3_people_6 (by decide) (by decide) ?_
  refine z_iload_n E dX3_people_27 rfl 1 rfl ?_
  exact z_iretM E hr hlocks (mem) rfl ⟨rfl, rfl⟩ (Nat.le_of_ble_eq_true rfl) (Nat.le_of_ble_eq_true rfl) dX3_people_28
set_option maxHeartbeats 1000000 in
set_option maxRecDepth 100000 in
theorem k_falls (l : Launch) (D : va_G) (ad : Nat → Nat) (cI cR cS cL : ClassId) (mem : zM) {t : Nat} (ht : t < 7) : zMi l yX3_falls wsX3_falls ({ frames := 0, cells := 0, slots := 0, locals := 0 }) D (cK cI cR cS cL) [.ref (ad (87 + t))] (cw ad cI cR cS mem) (fun r u => r = fFalls mem t ∧ u = mem) (cw ad cI cR cS) 0 0 := by
  refine zMiM.of (cc := cX3_falls) (maxL := 3) (ret := (some .int)) (by decide +kernel) rfl (lv0 := [(0, .ref (ad (87 + t)))]) (Nat.le_of_ble_eq_true rfl) rfl ?_
  intro p e s m args below meth c E hZ hr hlocks hnm
  refine z_iconst (v := 0) E dX3_falls_0 (by decide) ?_
  refine z_istore_n (lv' := [(1, .int 0), (0, .ref (ad (87 + t)))]) E dX3_falls_1 rfl (by decide) rfl ?_
  refine z_iconst (v := 0) E dX3_falls_2 (by decide) ?_
  refine z_istore_n (lv' := [(2, .int 0), (1, .int 0), (0, .ref (ad (87 + t)))]) E dX3_falls_3 rfl (by decide) rfl ?_
  refine z_iload_n E dX3_falls_4 rfl 0 rfl ?_
  refine z_iconst (v := 4) E dX3_falls_5 (by decide) ?_
  refine z_icmp_ge_f (tgt := 27) E dX3_falls_6 (by decide) (by decide) ?_
  refine z_iload_n E dX3_falls_9 rfl 1 rfl ?_
  refine z_aload_n E dX3_falls_10 rfl 2 rfl ?_
  refine z_get E (87 + t) (cw_site ht) (C := RX3) (T := TX3) (N := 3) rfl (fun _ h => List.mem_cons_of_mem _ (List.mem_append_left _ (List.mem_append_right _ h))) 0 (by decide) (List.mem_of_getElem? (i := 1) (by decide +kernel)) rfl (v := .ref (ad (94 + t))) rfl dX3_falls_11 ?_
  refine z_iload_n E dX3_falls_14 rfl 0 rfl ?_
  refine z_aldq E (94 + t) 1 (C := "LadderClimb$Rig") (cw_rigs ht) rfl (zvin rfl) (v := .ref (ad (3 * (4 * t + 0)))) rfl dX3_falls_15 ?_
  refine z_get E (3 * (4 * t + 0)) (cw_rig (by omega)) (C := RX2) (T := TX2) (N := 10) rfl (fun _ h => List.mem_cons_of_mem _ (List.mem_append_right _ h)) 6 (by decide) (List.mem_of_getElem? (i := 2) (by decide +kernel)) rfl (v := .int (mem (3 * (4 * t + 0)) 6)) rfl dX3_falls_16 ?_
  refine z_iadd E dX3_falls_19 ?_
  refine z_istore_n (lv' := [(1, .int (0 + (mem (3 * (4 * t + 0)) 6))), (2, .int 0), (0, .ref (ad (87 + t)))]) E dX3_falls_20 rfl (by decide) rfl ?_
  refine z_iinc (v := 1) (lv' := [(2, .int 1), (1, .int (0 + (mem (3 * (4 * t + 0)) 6))), (0, .ref (ad (87 + t)))]) E dX3_falls_21 (q := 1) rfl (by decide) (by decide) rfl ?_
  refine z_goto (tgt := 4) E dX3_falls_24 (by decide) ?_
  refine z_iload_n E dX3_falls_4 rfl 0 rfl ?_
  refine z_iconst (v := 4) E dX3_falls_5 (by decide) ?_
  refine z_icmp_ge_f (tgt := 27) E dX3_falls_6 (by decide) (by decide) ?_
  refine z_iload_n E dX3_falls_9 rfl 1 rfl ?_
  refine z_aload_n E dX3_falls_10 rfl 2 rfl ?_
  refine z_get E (87 + t) (cw_site ht) (C := RX3) (T := TX3) (N := 3) rfl (fun _ h => List.mem_cons_of_mem _ (List.mem_append_left _ (List.mem_append_right _ h))) 0 (by decide) (List.mem_of_getElem? (i := 1) (by decide +kernel)) rfl (v := .ref (ad (94 + t))) rfl dX3_falls_11 ?_
  refine z_iload_n E dX3_falls_14 rfl 0 rfl ?_
  refine z_aldq E (94 + t) 1 (C := "LadderClimb$Rig") (cw_rigs ht) rfl (zvin rfl) (v := .ref (ad (3 * (4 * t + 1)))) rfl dX3_falls_15 ?_
  refine z_get E (3 * (4 * t + 1)) (cw_rig (by omega)) (C := RX2) (T := TX2) (N := 10) rfl (fun _ h => List.mem_cons_of_mem _ (List.mem_append_right _ h)) 6 (by decide) (List.mem_of_getElem? (i := 2) (by decide +kernel)) rfl (v := .int (mem (3 * (4 * t + 1)) 6)) rfl dX3_falls_16 ?_
  refine z_iadd E dX3_falls_19 ?_
  refine z_istore_n (lv' := [(1, .int ((0 + (mem (3 * (4 * t + 0)) 6)) + (mem (3 * (4 * t + 1)) 6))), (2, .int 1), (0, .ref (ad (87 + t)))]) E dX3_falls_20 rfl (by decide) rfl ?_
  refine z_iinc (v := 2) (lv' := [(2, .int 2), (1, .int ((0 + (mem (3 * (4 * t + 0)) 6)) + (mem (3 * (4 * t + 1)) 6))), (0, .ref (ad (87 + t)))]) E dX3_falls_21 (q := 1) rfl (by decide) (by decide) rfl ?_
  refine z_goto (tgt := 4) E dX3_falls_24 (by decide) ?_
  refine z_iload_n E dX3_falls_4 rfl 0 rfl ?_
  refine z_iconst (v := 4) E dX3_falls_5 (by decide) ?_
  refine z_icmp_ge_f (tgt := 27) E dX3_falls_6 (by decide) (by decide) ?_
  refine z_iload_n E dX3_falls_9 rfl 1 rfl ?_
  refine z_aload_n E dX3_falls_10 rfl 2 rfl ?_
  refine z_get E (87 + t) (cw_site ht) (C := RX3) (T := TX3) (N := 3) rfl (fun _ h => List.mem_cons_of_mem _ (List.mem_append_left _ (List.mem_append_right _ h))) 0 (by decide) (List.mem_of_getElem? (i := 1) (by decide +kernel)) rfl (v := .ref (ad (94 + t))) rfl dX3_falls_11 ?_
  refine z_iload_n E dX3_falls_14 rfl 0 rfl ?_
  refine z_aldq E (94 + t) 1 (C := "LadderClimb$Rig") (cw_rigs ht) rfl (zvin rfl) (v := .ref (ad (3 * (4 * t + 2)))) rfl dX3_falls_15 ?_
  refine z_get E (3 * (4 * t + 2)) (cw_rig (by omega)) (C := RX2) (T := TX2) (N := 10) rfl (fun _ h => List.mem_cons_of_mem _ (List.mem_append_right _ h)) 6 (by decide) (List.mem_of_getElem? (i := 2) (by decide +kernel)) rfl (v := .int (mem (3 * (4 * t + 2)) 6)) rfl dX3_falls_16 ?_
  refine z_iadd E dX3_falls_19 ?_
  refine z_istore_n (lv' := [(1, .int (((0 + (mem (3 * (4 * t + 0)) 6)) + (mem (3 * (4 * t + 1)) 6)) + (mem (3 * (4 * t + 2)) 6))), (2, .int 2), (0, .ref (ad (87 + t)))]) E dX3_falls_20 rfl (by decide) rfl ?_
  refine z_iinc (v := 3) (lv' := [(2, .int 3), (1, .int (((0 + (mem (3 * (4 * t + 0)) 6)) + (mem (3 * (4 * t + 1)) 6)) + (mem (3 * (4 * t + 2)) 6))), (0, .ref (ad (87 + t)))]) E dX3_falls_21 (q := 1) rfl (by decide) (by decide) rfl ?_
  refine z_goto (tgt := 4) E dX3_falls_24 (by decide) ?_
  refine z_iload_n E dX3_falls_4 rfl 0 rfl ?_
  refine z_iconst (v := 4) E dX3_falls_5 (by decide) ?_
  refine z_icmp_ge_f (tgt := 27) E dX3_falls_6 (by decide) (by decide) ?_
  refine z_iload_n E dX3_falls_9 rfl 1 rfl ?_
  refine z_aload_n E dX3_falls_10 rfl 2 rfl ?_
  refine z_get E (87 + t) (cw_site ht) (C := RX3) (T := TX3) (N := 3) rfl (fun _ h => List.mem_cons_of_mem _ (List.mem_append_left _ (List.mem_append_right _ h))) 0 (by decide) (List.mem_of_getElem? (i := 1) (by decide +kernel)) rfl (v := .ref (ad (94 + t))) rfl dX3_falls_11 ?_
  refine z_iload_n E dX3_falls_14 rfl 0 rfl ?_
  refine z_aldq E (94 + t) 1 (C := "LadderClimb$Rig") (cw_rigs ht) rfl (zvin rfl) (v := .ref (ad (3 * (4 * t + 3)))) rfl dX3_falls_15 ?_
  refine z_get E (3 * (4 * t + 3)) (cw_rig (by omega)) (C := RX2) (T := TX2) (N := 10) rfl (fun _ h => List.mem_cons_of_mem _ (List.mem_append_right _ h)) 6 (by decide) (List.mem_of_getElem? (i := 2) (by decide +kernel)) rfl (v := .int (mem (3 * (4 * t + 3)) 6)) rfl dX3_falls_16 ?_
  refine z_iadd E dX3_falls_19 ?_
  refine z_istore_n (lv' := [(1, .int ((((0 + (mem (3 * (4 * t + 0)) 6)) + (mem (3 * (4 * t + 1)) 6)) + (mem (3 * (4 * t + 2)) 6)) + (mem (3 * (4 * t + 3)) 6))), (2, .int 3), (0, .ref (ad (87 + t)))]) E dX3_falls_20 rfl (by decide) rfl ?_
  refine z_iinc (v := 4) (lv' := [(2, .int 4), (1, .int ((((0 + (mem (3 * (4 * t + 0)) 6)) + (mem (3 * (4 * t + 1)) 6)) + (mem (3 * (4 * t + 2)) 6)) + (mem (3 * (4 * t + 3)) 6))), (0, .ref (ad (87 + t)))]) E dX3_falls_21 (q := 1) rfl (by decide) (by decide) rfl ?_
  refine z_goto (tgt := 4) E dX3_falls_24 (by decide) ?_
  refine z_iload_n E dX3_falls_4 rfl 0 rfl ?_
  refine z_iconst (v := 4) E dX3_falls_5 (by decide) ?_
  refine z_icmp_ge_t (tgt := 27) E dX3_falls_6 (by decide) (by decide) ?_
  refine z_iload_n E dX3_falls_27 rfl 1 rfl ?_
  exact z_iretM E hr hlocks (mem) rfl ⟨rfl, rfl⟩ (Nat.le_of_ble_eq_true rfl) (Nat.le_of_ble_eq_true rfl) dX3_falls_28
set_option maxHeartbeats 1000000 in
set_option maxRecDepth 100000 in
theorem k_fall (l : Launch) (D : va_G) (ad : Nat → Nat) (cI cR cS cL : ClassId) (mem : zM) {t : Nat} (ht : t < 7) {j : Nat} (hj : j < 29) : zMv l yX3_fall wsX3_fall ({ frames := 1, cells := 0, slots := 0, locals := 21 }) D (cK cI cR cS cL) [.ref (ad (87 + t)), .ref (ad (3 * j))] (cw ad cI cR cS mem) (fun u => u = sFall mem t j) (cw ad cI cR cS) 0 0 := by
  refine zMvM.of (cc := cX3_fall) (maxL := 2) (ret := none) (by decide +kernel) rfl (lv0 := [(0, .ref (ad (87 + t))), (1, .ref (ad (3 * j)))]) (Nat.le_of_ble_eq_true rfl) rfl ?_
  intro p e s m args below meth c E hZ hr hlocks hnm
  refine z_aload_n E dX3_fall_0 rfl 0 rfl ?_
  refine z_dup E dX3_fall_1 rfl ?_
  refine z_get E (87 + t) (cw_site ht) (C := RX3) (T := TX3) (N := 3) rfl (fun _ h => List.mem_cons_of_mem _ (List.mem_append_left _ (List.mem_append_right _ h))) 1 (by decide) (List.mem_of_getElem? (i := 1) (by decide +kernel)) rfl (v := .int (mem (87 + t) 1)) rfl dX3_fall_2 ?_
  refine z_aload_n E dX3_fall_5 rfl 1 rfl ?_
  refine z_get E (3 * j) (cw_rig hj) (C := RX2) (T := TX2) (N := 10) rfl (fun _ h => List.mem_cons_of_mem _ (List.mem_append_right _ h)) 7 (by decide) (List.mem_of_getElem? (i := 2) (by decide +kernel)) rfl (v := .int (mem (3 * j) 7)) rfl dX3_fall_6 ?_
  refine z_iadd E dX3_fall_9 ?_
  refine z_put E (87 + t) (cw_site ht) (C := RX3) (T := TX3) (N := 3) rfl (fun _ h => List.mem_cons_of_mem _ (List.mem_append_left _ (List.mem_append_right _ h))) tyX3 tyX3_ok nmX3 1 (by decide) (List.mem_of_getElem? (i := 1) (by decide +kernel)) rfl rfl rfl rfl (Nat.le_of_ble_eq_true rfl) (ws' := cw ad cI cR cS (mset mem (87 + t) 1 ((mem (87 + t) 1) + (mem (3 * j) 7)))) (cs_site ht 1 (by decide) (by decide) rfl) dX3_fall_10 ?_
  refine z_gm (fun m47 hm47 => ?_)
  have Fm47_0 : m47 (3 * j) = mem (3 * j) := by rw [hm47, mset_ne _ _ _ (by omega)]
  refine z_aload_n E dX3_fall_13 rfl 1 rfl ?_
  refine z_dup E dX3_fall_14 rfl ?_
  refine z_get E (3 * j) (cw_rig hj) (C := RX2) (T := TX2) (N := 10) rfl (fun _ h => List.mem_cons_of_mem _ (List.mem_append_right _ h)) 6 (by decide) (List.mem_of_getElem? (i := 3) (by decide +kernel)) rfl (v := .int (mem (3 * j) 6)) (congrArg (fun z : Nat → Int32 => some (Value.int (z 6))) Fm47_0) dX3_fall_15 ?_
  refine z_iconst (v := 1) E dX3_fall_18 (by decide) ?_
  refine z_iadd E dX3_fall_19 ?_
  refine z_put E (3 * j) (cw_rig hj) (C := RX2) (T := TX2) (N := 10) rfl (fun _ h => List.mem_cons_of_mem _ (List.mem_append_right _ h)) tyX2 tyX2_ok nmX2 6 (by decide) (List.mem_of_getElem? (i := 3) (by decide +kernel)) rfl rfl rfl rfl (Nat.le_of_ble_eq_true rfl) (ws' := cw ad cI cR cS (mset m47 (3 * j) 6 ((mem (3 * j) 6) + 1))) (cs_rig hj 6 (by decide) rfl) dX3_fall_20 ?_
  refine z_gm (fun m48 hm48 => ?_)
  refine z_aload_n E dX3_fall_23 rfl 1 rfl ?_
  refine z_callVv E hZ (k_removeAll l D ad cI cR cS cL m48 hj) gX3_fall_X2_removeAll (n := 0) rfl rfl rfl (by decide +kernel) rfl ⟨Nat.le_of_ble_eq_true rfl, Nat.le_of_ble_eq_true rfl⟩  (C := RX2) rfl (3 * j) (cw_rig hj) (As := []) (rest := []) rfl (Nat.le_of_ble_eq_true rfl) ⟨Nat.le_of_ble_eq_true rfl, Nat.le_of_ble_eq_true rfl⟩ dX3_fall_24 (fun u hp => ?_)
  rw [hp]
  refine z_gm (fun m49 hm49 => ?_)
  exact z_vretM E hr hlocks (m49) rfl (by rw [hm49, hm48, hm47]; rfl) (Nat.le_of_ble_eq_true rfl) (Nat.le_of_ble_eq_true rfl) dX3_fall_27
set_option maxHeartbeats 1000000 in
set_option maxRecDepth 100000 in
theorem k_fallsNow (l : Launch) (D : va_G) (ad : Nat → Nat) (cI cR cS cL : ClassId) (mem : zM) {t : Nat} (ht : t < 7) {j : Nat} (hj : j < 29) : zMi l yX3_fallsNow wsX3_fallsNow ({ frames := 4, cells := 0, slots := 0, locals := 84 }) D (cK cI cR cS cL) [.ref (ad (87 + t)), .ref (ad (3 * j))] (cw ad cI cR cS mem) (fun r u => r = fFN (rv mem j) ∧ u = sFN mem t j) (cw ad cI cR cS) 0 0 := by
  refine zMiM.of (cc := cX3_fallsNow) (maxL := 2) (ret := (some .boolean)) (by decide +kernel) rfl (lv0 := [(0, .ref (ad (87 + t))), (1, .ref (ad (3 * j)))]) (Nat.le_of_ble_eq_true rfl) rfl ?_
  intro p e s m args below meth c E hZ hr hlocks hnm
  refine z_aload_n E dX3_fallsNow_0 rfl 1 rfl ?_
  refine z_get E (3 * j) (cw_rig hj) (C := RX2) (T := TX2) (N := 10) rfl (fun _ h => List.mem_cons_of_mem _ (List.mem_append_left _ (List.mem_append_right _ h))) 7 (by decide) (List.mem_of_getElem? (i := 1) (by decide +kernel)) rfl (v := .int (mem (3 * j) 7)) rfl dX3_fallsNow_1 ?_
  refine z_if_eq (tgt := 14) E dX3_fallsNow_4 (by decide) (fun c4 => ?_) (fun c4 => ?_)
  · skip
    refine z_iconst (v := 0) E dX3_fallsNow_14 (by decide) ?_
    exact z_izretM E hr hlocks (mem) rfl rfl ⟨(if_pos c4).symm, (if_pos c4).symm⟩ (Nat.le_of_ble_eq_true rfl) (Nat.le_of_ble_eq_true rfl) dX3_fallsNow_15
  · skip
    refine z_aload_n E dX3_fallsNow_7 rfl 1 rfl ?_
    refine z_callVi E hZ (k_stands l D ad cI cR cS cL mem hj) gX3_fallsNow_X2_stands (n := 0) rfl rfl rfl (by decide +kernel) rfl ⟨Nat.le_of_ble_eq_true rfl, Nat.le_of_ble_eq_true rfl⟩  (C := RX2) rfl (3 * j) (cw_rig hj) (As := []) (rest := []) rfl (Nat.le_of_ble_eq_true rfl) ⟨Nat.le_of_ble_eq_true rfl, Nat.le_of_ble_eq_true rfl⟩ dX3_fallsNow_8 (fun r u hp => ?_)
    rw [hp.1, hp.2]
    refine z_if_eq (tgt := 16) E dX3_fallsNow_11 (by decide) (fun c11 => ?_) (fun c11 => ?_)
    · skip
      refine z_aload_n E dX3_fallsNow_16 rfl 0 rfl ?_
      refine z_aload_n E dX3_fallsNow_17 rfl 1 rfl ?_
      refine z_callVv E hZ (k_fall l D ad cI cR cS cL mem ht hj) gX3_fallsNow_X3_fall (n := 1) rfl rfl rfl (by decide +kernel) rfl ⟨Nat.le_of_ble_eq_true rfl, Nat.le_of_ble_eq_true rfl⟩  (C := RX3) rfl (87 + t) (cw_site ht) (As := [.ref (ad (3 * j))]) (rest := []) rfl (Nat.le_of_ble_eq_true rfl) ⟨Nat.le_of_ble_eq_true rfl, Nat.le_of_ble_eq_true rfl⟩ dX3_fallsNow_18 (fun u hp => ?_)
      rw [hp]
      refine z_gm (fun m50 hm50 => ?_)
      refine z_iconst (v := 1) E dX3_fallsNow_21 (by decide) ?_
      exact z_izretM E hr hlocks (m50) rfl rfl ⟨((if_neg c4).trans (if_pos c11)).symm, by rw [hm50]; exact ((if_neg c4).trans (if_pos c11)).symm⟩ (Nat.le_of_ble_eq_true rfl) (Nat.le_of_ble_eq_true rfl) dX3_fallsNow_22
    · skip
      refine z_iconst (v := 0) E dX3_fallsNow_14 (by decide) ?_
      exact z_izretM E hr hlocks (mem) rfl rfl ⟨((if_neg c4).trans (if_neg c11)).symm, ((if_neg c4).trans (if_neg c11)).symm⟩ (Nat.le_of_ble_eq_true rfl) (Nat.le_of_ble_eq_true rfl) dX3_fallsNow_15
theorem sSiteCopy_keep (mem : zM) {t t2 i : Nat} (ht : t < 7) (hi : 94 ≤ i) : sSiteCopy mem t t2 i = mem i := by
  unfold sSiteCopy sCopy4
  rw [mset_ne _ _ _ (by omega), mset_ne _ _ _ (by omega)]
  funext k
  unfold sCopy
  simp only [show ¬ i = 3 * (4 * t + 3) by omega, show ¬ i = 3 * (4 * t + 3) + 1 by omega, show ¬ i = 3 * (4 * t + 3) + 2 by omega, show ¬ i = 3 * (4 * t + 2) by omega, show ¬ i = 3 * (4 * t + 2) + 1 by omega, show ¬ i = 3 * (4 * t + 2) + 2 by omega, show ¬ i = 3 * (4 * t + 1) by omega, show ¬ i = 3 * (4 * t + 1) + 1 by omega, show ¬ i = 3 * (4 * t + 1) + 2 by omega, show ¬ i = 3 * (4 * t + 0) by omega, show ¬ i = 3 * (4 * t + 0) + 1 by omega, show ¬ i = 3 * (4 * t + 0) + 2 by omega, false_and, if_false]
theorem zmin6 {z : Nat} (hz : z ≤ 6) : (if (6 : Int32) < nI z + 1 then (6 : Int32) else nI z + 1) = (if z < 6 then nI (z + 1) else 6) := by
  rw [nI_1]
  by_cases h : z < 6
  · rw [if_pos h, if_neg (show ¬ (6 : Int32) < nI (z + 1) from fun q => by have := (nI_ltI (a := 6) (b := z + 1) (by omega) (by omega)).mp q; omega)]
  · rw [if_neg h, if_pos (show (6 : Int32) < nI (z + 1) from (nI_ltI (a := 6) (b := z + 1) (by omega) (by omega)).mpr (by omega))]
set_option maxHeartbeats 1000000 in
set_option maxRecDepth 100000 in
theorem k_save (l : Launch) (D : va_G) (ad : Nat → Nat) (cI cR cS cL : ClassId) (mem : zM) {q : Nat} (hq : q < 6) (hn : mem 101 1 = nI q) {z : Nat} (hz : z ≤ 6) (hs : mem 101 2 = nI z) : zMv l yX0_save wsX0_save ({ frames := 2, cells := 0, slots := 0, locals := 44 }) D (cK cI cR cS cL) [.ref (ad 101), .ref (ad (87 + 0))] (cw ad cI cR cS mem) (fun u => u = sSave mem q z) (cw ad cI cR cS) 0 0 := by
  refine zMvM.of (cc := cX0_save) (maxL := 2) (ret := none) (by decide +kernel) rfl (lv0 := [(0, .ref (ad 101)), (1, .ref (ad (87 + 0)))]) (Nat.le_of_ble_eq_true rfl) rfl ?_
  intro p e s m args below meth c E hZ hr hlocks hnm
  refine z_aload_n E dX0_save_0 rfl 0 rfl ?_
  refine z_get E 101 cw_hist (C := RX0) (T := TX0) (N := 3) rfl (fun _ h => List.mem_cons_of_mem _ (List.mem_append_left _ (List.mem_append_left _ (List.mem_append_right _ h)))) 1 (by decide) (List.mem_of_getElem? (i := 1) (by decide +kernel)) rfl (v := .int (nI q)) (congrArg (fun z : Int32 => some (Value.int z)) hn) dX0_save_1 ?_
  refine z_if_lt_f (tgt := 16) E dX0_save_4 (by decide) (nI_pos (by omega)) ?_
  refine z_aload_n E dX0_save_7 rfl 0 rfl ?_
  refine z_get E 101 cw_hist (C := RX0) (T := TX0) (N := 3) rfl (fun _ h => List.mem_cons_of_mem _ (List.mem_append_left _ (List.mem_append_left _ (List.mem_append_right _ h)))) 1 (by decide) (List.mem_of_getElem? (i := 1) (by decide +kernel)) rfl (v := .int (nI q)) (congrArg (fun z : Int32 => some (Value.int z)) hn) dX0_save_8 ?_
  refine z_bipush (v := 6) E dX0_save_11 (by decide) ?_
  refine z_icmp_lt_t (tgt := 17) E dX0_save_13 (by decide) ((nI_ltI (b := 6) (by omega) (by omega)).mpr hq) ?_
  refine z_aload_n E dX0_save_17 rfl 0 rfl ?_
  refine z_get E 101 cw_hist (C := RX0) (T := TX0) (N := 3) rfl (fun _ h => List.mem_cons_of_mem _ (List.mem_append_left _ (List.mem_append_left _ (List.mem_append_right _ h)))) 0 (by decide) (List.mem_of_getElem? (i := 2) (by decide +kernel)) rfl (v := .ref (ad 102)) rfl dX0_save_18 ?_
  refine z_aload_n E dX0_save_21 rfl 0 rfl ?_
  refine z_get E 101 cw_hist (C := RX0) (T := TX0) (N := 3) rfl (fun _ h => List.mem_cons_of_mem _ (List.mem_append_left _ (List.mem_append_left _ (List.mem_append_right _ h)))) 1 (by decide) (List.mem_of_getElem? (i := 1) (by decide +kernel)) rfl (v := .int (nI q)) (congrArg (fun z : Int32 => some (Value.int z)) hn) dX0_save_22 ?_
  refine z_aldq E 102 2 (C := "LadderClimb$Site") cw_saved rfl (vp_in_nI hq (by decide)) (v := .ref (ad (87 + (q + 1)))) (show va_rf (some (ad (88 + (nI q).toNatClampNeg))) = .ref (ad (87 + (q + 1))) by rw [nI_clamp (by omega), show 88 + q = 87 + (q + 1) by omega]; rfl) dX0_save_25 ?_
  refine z_aload_n E dX0_save_26 rfl 1 rfl ?_
  refine z_callVv E hZ (k_siteCopy l D ad cI cR cS cL mem (by omega) (by omega) (by omega)) gX0_save_X3_copyFrom (n := 1) rfl rfl rfl (by decide +kernel) rfl ⟨Nat.le_of_ble_eq_true rfl, Nat.le_of_ble_eq_true rfl⟩  (C := RX3) rfl (87 + (q + 1)) (cw_site (by omega)) (As := [.ref (ad (87 + 0))]) (rest := []) rfl (Nat.le_of_ble_eq_true rfl) ⟨Nat.le_of_ble_eq_true rfl, Nat.le_of_ble_eq_true rfl⟩ dX0_save_27 (fun u hp => ?_)
  rw [hp]
  refine z_gm (fun m51 hm51 => ?_)
  have ym51_0 : m51 101 1 = nI q := by rw [hm51, sSiteCopy_keep _ (by omega) (by omega)]; exact hn
  have ym51_1 : m51 101 2 = nI z := by rw [hm51, sSiteCopy_keep _ (by omega) (by omega)]; exact hs
  refine z_aload_n E dX0_save_30 rfl 0 rfl ?_
  refine z_join (fun v52 => v52 = if q + 1 < 6 then nI (q + 1) else 0) (pc2 := 52) (c2 := 0) (s2 := 0) (lv2 := (fun _ => [(0, .ref (ad 101)), (1, .ref (ad (87 + 0)))])) (st2 := (fun v52 => [.int v52, .ref (ad 101)])) (fun v52 hv52 => ?_) (fun J52 => ?_)
  · skip
    refine z_put E 101 cw_hist (C := RX0) (T := TX0) (N := 3) rfl (fun _ h => List.mem_cons_of_mem _ (List.mem_append_left _ (List.mem_append_left _ (List.mem_append_right _ h)))) tyX0 tyX0_ok nmX0 1 (by decide) (List.mem_of_getElem? (i := 1) (by decide +kernel)) rfl rfl rfl rfl (Nat.le_of_ble_eq_true rfl) (ws' := cw ad cI cR cS (mset m51 101 1 v52)) (cs_hist 1 (by decide) (by decide) rfl) dX0_save_52 ?_
    refine z_gm (fun m52 hm52 => ?_)
    have xm52_0 : m52 101 2 = nI z := by rw [hm52, mset_ne2 _ _ (by decide)]; exact ym51_1
    refine z_aload_n E dX0_save_55 rfl 0 rfl ?_
    refine z_aload_n E dX0_save_56 rfl 0 rfl ?_
    refine z_get E 101 cw_hist (C := RX0) (T := TX0) (N := 3) rfl (fun _ h => List.mem_cons_of_mem _ (List.mem_append_left _ (List.mem_append_left _ (List.mem_append_right _ h)))) 2 (by decide) (List.mem_of_getElem? (i := 3) (by decide +kernel)) rfl (v := .int (nI z)) (congrArg (fun z : Int32 => some (Value.int z)) xm52_0) dX0_save_57 ?_
    refine z_iconst (v := 1) E dX0_save_60 (by decide) ?_
    refine z_iadd E dX0_save_61 ?_
    refine z_bipush (v := 6) E dX0_save_62 (by decide) ?_
    refine z_mmin E (List.mem_of_getElem? (i := 4) (by decide +kernel)) (List.mem_of_getElem? (i := 5) (by decide +kernel)) (List.mem_of_getElem? (i := 6) (by decide +kernel)) (List.mem_of_getElem? (i := 7) (by decide +kernel)) (Nat.le_of_ble_eq_true rfl) (Nat.le_of_ble_eq_true rfl) (Nat.le_of_ble_eq_true rfl) (Nat.le_of_ble_eq_true rfl) dX0_save_64 ?_
    refine z_put E 101 cw_hist (C := RX0) (T := TX0) (N := 3) rfl (fun _ h => List.mem_cons_of_mem _ (List.mem_append_left _ (List.mem_append_left _ (List.mem_append_right _ h)))) tyX0 tyX0_ok nmX0 2 (by decide) (List.mem_of_getElem? (i := 3) (by decide +kernel)) rfl rfl rfl rfl (Nat.le_of_ble_eq_true rfl) (ws' := cw ad cI cR cS (mset m52 101 2 (if 6 < (nI z) + 1 then 6 else (nI z) + 1))) (cs_hist 2 (by decide) (by decide) rfl) dX0_save_67 ?_
    refine z_gm (fun m53 hm53 => ?_)
    exact z_vretM E hr hlocks (m53) rfl (by rw [hm53, hm52, hm51]; unfold sSave; rw [hv52, zmin6 hz]) (Nat.le_of_ble_eq_true rfl) (Nat.le_of_ble_eq_true rfl) dX0_save_70
  · skip
    refine z_aload_n E dX0_save_31 rfl 0 rfl ?_
    refine z_get E 101 cw_hist (C := RX0) (T := TX0) (N := 3) rfl (fun _ h => List.mem_cons_of_mem _ (List.mem_append_left _ (List.mem_append_left _ (List.mem_append_right _ h)))) 1 (by decide) (List.mem_of_getElem? (i := 1) (by decide +kernel)) rfl (v := .int (nI q)) (congrArg (fun z : Int32 => some (Value.int z)) ym51_0) dX0_save_32 ?_
    refine z_iconst (v := 1) E dX0_save_35 (by decide) ?_
    refine z_iadd E dX0_save_36 ?_
    refine z_bipush (v := 6) E dX0_save_37 (by decide) ?_
    refine z_icmp_ge (tgt := 51) E dX0_save_39 (by decide) (fun c39 => ?_) (fun c39 => ?_)
    · skip
      refine z_iconst (v := 0) E dX0_save_51 (by decide) ?_
      exact J52 _ (if_neg (fun h => by have := (nI_leI (a := 6) (b := q + 1) (by omega) (by omega)).mp (nI_1 q ▸ c39 : (6 : Int32) ≤ nI (q + 1)); omega)).symm
    · skip
      refine z_aload_n E dX0_save_42 rfl 0 rfl ?_
      refine z_get E 101 cw_hist (C := RX0) (T := TX0) (N := 3) rfl (fun _ h => List.mem_cons_of_mem _ (List.mem_append_left _ (List.mem_append_left _ (List.mem_append_right _ h)))) 1 (by decide) (List.mem_of_getElem? (i := 1) (by decide +kernel)) rfl (v := .int (nI q)) (congrArg (fun z : Int32 => some (Value.int z)) ym51_0) dX0_save_43 ?_
      refine z_iconst (v := 1) E dX0_save_46 (by decide) ?_
      refine z_iadd E dX0_save_47 ?_
      refine z_goto (tgt := 52) E dX0_save_48 (by decide) ?_
      exact J52 _ ((nI_1 q).trans (if_pos (Nat.lt_of_not_le (fun h => c39 (by rw [nI_1]; exact (nI_leI (a := 6) (by omega) (by omega)).mpr h)))).symm)
def latest (q : Nat) : Nat := if 0 < q then q - 1 else 5
theorem latest_lt {q : Nat} (hq : q < 6) : latest q < 6 := by unfold latest; split <;> omega
theorem zlat0 {q : Nat} (hq : q < 6) (h : nI q ≤ 0) : (5 : Int32) = nI (latest q) := by
  have : q = 0 := by have := (nI_leI (a := q) (b := 0) (by omega) (by omega)).mp h; omega
  subst this; rfl
theorem zlat1 {q : Nat} (hq : q < 6) (h : ¬ nI q ≤ 0) : nI q - 1 = nI (latest q) := by
  have h0 : 0 < q := by rcases Nat.eq_zero_or_pos q with z | z; subst z; exact absurd (Int32.le_refl _) h; exact z
  obtain ⟨k, rfl⟩ : ∃ k, q = k + 1 := ⟨q - 1, by omega⟩
  rw [nI_pred]; unfold latest; rw [if_pos h0]; rfl
set_option maxHeartbeats 1000000 in
set_option maxRecDepth 100000 in
theorem k_restoreTo (l : Launch) (D : va_G) (ad : Nat → Nat) (cI cR cS cL : ClassId) (mem : zM) {q : Nat} (hq : q < 6) (hn : mem 101 1 = nI q) {z : Nat} (hz0 : 0 < z) (hz : z ≤ 6) (hs : mem 101 2 = nI z) : zMv l yX0_restoreTo wsX0_restoreTo ({ frames := 2, cells := 0, slots := 0, locals := 44 }) D (cK cI cR cS cL) [.ref (ad 101), .ref (ad (87 + 0))] (cw ad cI cR cS mem) (fun u => u = sRest mem (latest q) z) (cw ad cI cR cS) 0 0 := by
  refine zMvM.of (cc := cX0_restoreTo) (maxL := 3) (ret := none) (by decide +kernel) rfl (lv0 := [(0, .ref (ad 101)), (1, .ref (ad (87 + 0)))]) (Nat.le_of_ble_eq_true rfl) rfl ?_
  intro p e s m args below meth c E hZ hr hlocks hnm
  refine z_aload_n E dX0_restoreTo_0 rfl 0 rfl ?_
  refine z_get E 101 cw_hist (C := RX0) (T := TX0) (N := 3) rfl (fun _ h => List.mem_cons_of_mem _ (List.mem_append_left _ (List.mem_append_left _ (List.mem_append_right _ h)))) 1 (by decide) (List.mem_of_getElem? (i := 1) (by decide +kernel)) rfl (v := .int (nI q)) (congrArg (fun z : Int32 => some (Value.int z)) hn) dX0_restoreTo_1 ?_
  refine z_join (fun v17 => v17 = nI (latest q)) (pc2 := 17) (c2 := 0) (s2 := 0) (lv2 := (fun _ => [(0, .ref (ad 101)), (1, .ref (ad (87 + 0)))])) (st2 := (fun v17 => [.int v17])) (fun v17 hv17 => ?_) (fun J17 => ?_)
  · subst hv17
    refine z_istore_n (lv' := [(2, .int (nI (latest q))), (0, .ref (ad 101)), (1, .ref (ad (87 + 0)))]) E dX0_restoreTo_17 rfl (by decide) rfl ?_
    refine z_aload_n E dX0_restoreTo_18 rfl 1 rfl ?_
    refine z_get E 101 cw_hist (C := RX0) (T := TX0) (N := 3) rfl (fun _ h => List.mem_cons_of_mem _ (List.mem_append_left _ (List.mem_append_left _ (List.mem_append_right _ h)))) 2 (by decide) (List.mem_of_getElem? (i := 2) (by decide +kernel)) rfl (v := .int (nI z)) (congrArg (fun z : Int32 => some (Value.int z)) hs) dX0_restoreTo_19 ?_
    refine z_if_le_f (tgt := 31) E dX0_restoreTo_22 (by decide) (nI_nle hz0 (by omega)) ?_
    refine z_iload_n E dX0_restoreTo_25 rfl 0 rfl ?_
    refine z_bipush (v := 6) E dX0_restoreTo_26 (by decide) ?_
    refine z_icmp_lt_t (tgt := 32) E dX0_restoreTo_28 (by decide) ((nI_ltI (b := 6) (by have := latest_lt hq; omega) (by omega)).mpr (latest_lt hq)) ?_
    refine z_aload_n E dX0_restoreTo_32 rfl 2 rfl ?_
    refine z_aload_n E dX0_restoreTo_33 rfl 1 rfl ?_
    refine z_get E 101 cw_hist (C := RX0) (T := TX0) (N := 3) rfl (fun _ h => List.mem_cons_of_mem _ (List.mem_append_left _ (List.mem_append_left _ (List.mem_append_right _ h)))) 0 (by decide) (List.mem_of_getElem? (i := 3) (by decide +kernel)) rfl (v := .ref (ad 102)) rfl dX0_restoreTo_34 ?_
    refine z_iload_n E dX0_restoreTo_37 rfl 0 rfl ?_
    refine z_aldq E 102 2 (C := "LadderClimb$Site") cw_saved rfl (vp_in_nI (latest_lt hq) (by decide)) (v := .ref (ad (87 + (latest q + 1)))) (show va_rf (some (ad (88 + (nI (latest q)).toNatClampNeg))) = .ref (ad (87 + (latest q + 1))) by rw [nI_clamp (by have := latest_lt hq; omega), show 88 + latest q = 87 + (latest q + 1) by omega]; rfl) dX0_restoreTo_38 ?_
    refine z_callVv E hZ (k_siteCopy l D ad cI cR cS cL mem (by omega) (by have := latest_lt hq; omega) (by omega)) gX0_restoreTo_X3_copyFrom (n := 1) rfl rfl rfl (by decide +kernel) rfl ⟨Nat.le_of_ble_eq_true rfl, Nat.le_of_ble_eq_true rfl⟩  (C := RX3) rfl (87 + 0) (cw_site (by omega)) (As := [.ref (ad (87 + (latest q + 1)))]) (rest := []) rfl (Nat.le_of_ble_eq_true rfl) ⟨Nat.le_of_ble_eq_true rfl, Nat.le_of_ble_eq_true rfl⟩ dX0_restoreTo_39 (fun u hp => ?_)
    rw [hp]
    refine z_gm (fun m54 hm54 => ?_)
    have ym54_0 : m54 101 1 = nI q := by rw [hm54, sSiteCopy_keep _ (by omega) (by omega)]; exact hn
    have ym54_1 : m54 101 2 = nI z := by rw [hm54, sSiteCopy_keep _ (by omega) (by omega)]; exact hs
    refine z_aload_n E dX0_restoreTo_42 rfl 1 rfl ?_
    refine z_iload_n E dX0_restoreTo_43 rfl 0 rfl ?_
    refine z_put E 101 cw_hist (C := RX0) (T := TX0) (N := 3) rfl (fun _ h => List.mem_cons_of_mem _ (List.mem_append_left _ (List.mem_append_left _ (List.mem_append_right _ h)))) tyX0 tyX0_ok nmX0 1 (by decide) (List.mem_of_getElem? (i := 1) (by decide +kernel)) rfl rfl rfl rfl (Nat.le_of_ble_eq_true rfl) (ws' := cw ad cI cR cS (mset m54 101 1 (nI (latest q)))) (cs_hist 1 (by decide) (by decide) rfl) dX0_restoreTo_44 ?_
    refine z_gm (fun m55 hm55 => ?_)
    have xm55_0 : m55 101 2 = nI z := by rw [hm55, mset_ne2 _ _ (by decide)]; exact ym54_1
    refine z_aload_n E dX0_restoreTo_47 rfl 1 rfl ?_
    refine z_dup E dX0_restoreTo_48 rfl ?_
    refine z_get E 101 cw_hist (C := RX0) (T := TX0) (N := 3) rfl (fun _ h => List.mem_cons_of_mem _ (List.mem_append_left _ (List.mem_append_left _ (List.mem_append_right _ h)))) 2 (by decide) (List.mem_of_getElem? (i := 2) (by decide +kernel)) rfl (v := .int (nI z)) (congrArg (fun z : Int32 => some (Value.int z)) xm55_0) dX0_restoreTo_49 ?_
    refine z_iconst (v := 1) E dX0_restoreTo_52 (by decide) ?_
    refine z_isub E dX0_restoreTo_53 ?_
    refine z_put E 101 cw_hist (C := RX0) (T := TX0) (N := 3) rfl (fun _ h => List.mem_cons_of_mem _ (List.mem_append_left _ (List.mem_append_left _ (List.mem_append_right _ h)))) tyX0 tyX0_ok nmX0 2 (by decide) (List.mem_of_getElem? (i := 2) (by decide +kernel)) rfl rfl rfl rfl (Nat.le_of_ble_eq_true rfl) (ws' := cw ad cI cR cS (mset m55 101 2 ((nI z) - 1))) (cs_hist 2 (by decide) (by decide) rfl) dX0_restoreTo_54 ?_
    refine z_gm (fun m56 hm56 => ?_)
    exact z_vretM E hr hlocks (m56) rfl (by rw [hm56, hm55, hm54]; rfl) (Nat.le_of_ble_eq_true rfl) (Nat.le_of_ble_eq_true rfl) dX0_restoreTo_57
  · skip
    refine z_if_le (tgt := 16) E dX0_restoreTo_4 (by decide) (fun c4 => ?_) (fun c4 => ?_)
    · skip
      refine z_iconst (v := 5) E dX0_restoreTo_16 (by decide) ?_
      exact J17 _ (zlat0 hq c4)
    · skip
      refine z_aload_n E dX0_restoreTo_7 rfl 0 rfl ?_
      refine z_get E 101 cw_hist (C := RX0) (T := TX0) (N := 3) rfl (fun _ h => List.mem_cons_of_mem _ (List.mem_append_left _ (List.mem_append_left _ (List.mem_append_right _ h)))) 1 (by decide) (List.mem_of_getElem? (i := 1) (by decide +kernel)) rfl (v := .int (nI q)) (congrArg (fun z : Int32 => some (Value.int z)) hn) dX0_restoreTo_8 ?_
      refine z_iconst (v := 1) E dX0_restoreTo_11 (by decide) ?_
      refine z_isub E dX0_restoreTo_12 ?_
      refine z_goto (tgt := 17) E dX0_restoreTo_13 (by decide) ?_
      exact J17 _ (zlat1 hq c4)
def zway (a b : Nat) : Int32 := if a ≤ b then 1 else -1
def zdist (a b : Nat) : Nat := if a ≤ b then b - a else a - b
theorem zabsd {a b : Nat} (ha : a ≤ 10) (hb : b ≤ 10) : (if 0 ≤ nI b - nI a then nI b - nI a else 0 - (nI b - nI a)) = nI (zdist a b) := by
  unfold zdist
  by_cases h : a ≤ b
  · rw [if_pos h, pk_sub h, if_pos (nI_pos' (by omega))]
  · have e := pk_sneg (a := b) (b := a) (by omega) (by omega)
    rw [if_neg h, if_neg (Int32.not_le.mpr e)]
    have e2 := pk_sub (a := a) (b := b) (by omega)
    rw [← e2]
    have e3 : (0 : Int32) - (nI b - nI a) = nI a - nI b := by
      rw [Int32.zero_sub, Int32.neg_sub]
    exact e3
theorem wkGo_go {t j q d : Nat} {way step : Int32} {m m2 : zM} (hm2 : m2 = wkM t j q way m) (h : ¬ fStands (rv m2 j) = 0) : wkGo t j q way step (d + 1) m = wkGo t j q way step d m2 := by
  rw [wkGo_succ, ← hm2, if_neg h]
theorem wkGo_fall {t j q d : Nat} {way step : Int32} {m m2 : zM} (hm2 : m2 = wkM t j q way m) (h : fStands (rv m2 j) = 0) : wkGo t j q way step (d + 1) m = (-1, sFall m2 t j) := by
  rw [wkGo_succ, ← hm2, if_pos h]
theorem znlt {a b : Nat} (ha : a < 2 ^ 31) (hb : b < 2 ^ 31) (c : ¬ nI a < nI b) : b ≤ a := Nat.le_of_not_lt (fun h => c ((nI_ltI ha hb).mpr h))
theorem zstep1 (a k : Nat) (way : Int32) : nI a + nI (k + 1) * way = nI a + nI k * way + way := by
  rw [nI_succ, Int32.add_mul, Int32.one_mul, Int32.add_assoc]
theorem fBears_congr {R R' : Nat → Int32} (h : R 7 = R' 7) (q : Int32) : fBears R q = fBears R' q := by unfold fBears; rw [h]
set_option maxHeartbeats 1000000 in
set_option maxRecDepth 100000 in
theorem k_walk (l : Launch) (D : va_G) (ad : Nat → Nat) (cI cR cS cL : ClassId) (mem : zM) {t : Nat} (ht : t < 7) {j : Nat} (hj : j < 29) {q : Nat} (hq : q < 3) {a b : Nat} (ha : a ≤ 10) (hb : b ≤ 10) (hcur : mem (3 * j + 2) q = nI a) (hbr : ¬ fBears (rv mem j) (nI q) = 0) : zMi l yX3_walk wsX3_walk ({ frames := 4, cells := 0, slots := 0, locals := 84 }) D (cK cI cR cS cL) [.ref (ad (87 + t)), .ref (ad (3 * j)), .int (nI q), .int (nI b)] (cw ad cI cR cS mem) (fun r u => r = (wkGo t j q (zway a b) (nI b) (zdist a b) mem).1 ∧ u = (wkGo t j q (zway a b) (nI b) (zdist a b) mem).2) (cw ad cI cR cS) 0 0 := by
  refine zMiM.of (cc := cX3_walk) (maxL := 8) (ret := (some .int)) (by decide +kernel) rfl (lv0 := [(0, .ref (ad (87 + t))), (1, .ref (ad (3 * j))), (2, .int (nI q)), (3, .int (nI b))]) (Nat.le_of_ble_eq_true rfl) rfl ?_
  intro p e s m args below meth c E hZ hr hlocks hnm
  refine z_aload_n E dX3_walk_0 rfl 1 rfl ?_
  refine z_iload_n E dX3_walk_1 rfl 2 rfl ?_
  refine z_callVi E hZ (k_stepOf l D ad cI cR cS cL mem hj (nI q)) gX3_walk_X2_stepOf (n := 1) rfl rfl rfl (by decide +kernel) rfl ⟨Nat.le_of_ble_eq_true rfl, Nat.le_of_ble_eq_true rfl⟩  (C := RX2) rfl (3 * j) (cw_rig hj) (As := [.int (nI q)]) (rest := []) rfl (Nat.le_of_ble_eq_true rfl) ⟨Nat.le_of_ble_eq_true rfl, Nat.le_of_ble_eq_true rfl⟩ dX3_walk_2 (fun r u hp => ?_)
  rw [hp.1, hp.2]
  rw [show sStepOf mem j (nI q) = nI a from (if_neg hbr).trans (by rw [nI_clamp (by omega)]; exact hcur)]
  refine z_istore (lv' := [(4, .int (nI a)), (0, .ref (ad (87 + t))), (1, .ref (ad (3 * j))), (2, .int (nI q)), (3, .int (nI b))]) E dX3_walk_5 (by decide) rfl ?_
  refine z_iload_n E dX3_walk_7 rfl 4 rfl ?_
  refine z_iload E dX3_walk_8 0 rfl ?_
  refine z_join (fun v18 => v18 = zway a b) (pc2 := 18) (c2 := 0) (s2 := 0) (lv2 := (fun _ => [(4, .int (nI a)), (0, .ref (ad (87 + t))), (1, .ref (ad (3 * j))), (2, .int (nI q)), (3, .int (nI b))])) (st2 := (fun v18 => [.int v18])) (fun v18 hv18 => ?_) (fun J18 => ?_)
  · subst hv18
    refine z_istore (lv' := [(5, .int (zway a b)), (4, .int (nI a)), (0, .ref (ad (87 + t))), (1, .ref (ad (3 * j))), (2, .int (nI q)), (3, .int (nI b))]) E dX3_walk_18 (by decide) rfl ?_
    refine z_iload_n E dX3_walk_20 rfl 5 rfl ?_
    refine z_iload E dX3_walk_21 1 rfl ?_
    refine z_isub E dX3_walk_23 ?_
    refine z_mabs E (List.mem_of_getElem? (i := 1) (by decide +kernel)) (List.mem_of_getElem? (i := 2) (by decide +kernel)) (List.mem_of_getElem? (i := 3) (by decide +kernel)) (List.mem_of_getElem? (i := 4) (by decide +kernel)) (Nat.le_of_ble_eq_true rfl) (Nat.le_of_ble_eq_true rfl) (Nat.le_of_ble_eq_true rfl) (Nat.le_of_ble_eq_true rfl) dX3_walk_24 ?_
    rw [zabsd ha hb]
    refine z_istore (lv' := [(6, .int (nI (zdist a b))), (5, .int (zway a b)), (4, .int (nI a)), (0, .ref (ad (87 + t))), (1, .ref (ad (3 * j))), (2, .int (nI q)), (3, .int (nI b))]) E dX3_walk_27 (by decide) rfl ?_
    refine z_iconst (v := 1) E dX3_walk_29 (by decide) ?_
    refine z_istore (lv' := [(7, .int 1), (6, .int (nI (zdist a b))), (5, .int (zway a b)), (4, .int (nI a)), (0, .ref (ad (87 + t))), (1, .ref (ad (3 * j))), (2, .int (nI q)), (3, .int (nI b))]) E dX3_walk_30 (by decide) rfl ?_
    refine z_loop (σ := zM × Nat) (fun n x => x.2 + n = zdist a b ∧ x.1 (3 * j + 2) q = nI a + nI x.2 * zway a b ∧ (¬ fBears (rv x.1 j) (nI q) = 0) ∧ wkGo t j q (zway a b) (nI b) (zdist a b) mem = wkGo t j q (zway a b) (nI b) n x.1) (fun x => cw ad cI cR cS x.1) (fun x => [(7, .int (nI (x.2 + 1))), (6, .int (nI (zdist a b))), (5, .int (zway a b)), (4, .int (nI a)), (0, .ref (ad (87 + t))), (1, .ref (ad (3 * j))), (2, .int (nI q)), (3, .int (nI b))]) 32 0 0 ?_ (zdist a b) (mem, 0) ⟨Nat.zero_add _, by show mem (3 * j + 2) q = nI a + 0 * zway a b; rw [hcur, Int32.zero_mul, Int32.add_zero], hbr, rfl⟩ rfl rfl rfl rfl rfl
    rintro n ⟨m, k⟩ ⟨hkn, hst, hb1, hgo⟩ ih
    dsimp only at hkn hst hb1 hgo ⊢
    have hd10 : zdist a b ≤ 10 := by unfold zdist; split <;> omega
    refine z_iload E dX3_walk_32 0 rfl ?_
    refine z_iload E dX3_walk_34 1 rfl ?_
    refine z_icmp_gt (tgt := 82) E dX3_walk_36 (by decide) (fun c36 => ?_) (fun c36 => ?_)
    · skip
      refine z_iload_n E dX3_walk_82 rfl 7 rfl ?_
      exact z_iretM E hr hlocks (m) rfl ⟨by rw [hgo, show n = 0 by have := (nI_ltI (by omega) (by omega)).mp c36; omega]; rfl, by rw [hgo, show n = 0 by have := (nI_ltI (by omega) (by omega)).mp c36; omega]; rfl⟩ (Nat.le_of_ble_eq_true rfl) (Nat.le_of_ble_eq_true rfl) dX3_walk_83
    · skip
      have hn1 : 1 ≤ n := by have := znlt (by omega) (by omega) c36; omega
      refine z_aload_n E dX3_walk_39 rfl 5 rfl ?_
      refine z_iload_n E dX3_walk_40 rfl 6 rfl ?_
      refine z_iload E dX3_walk_41 3 rfl ?_
      refine z_iload E dX3_walk_43 0 rfl ?_
      refine z_iload E dX3_walk_45 2 rfl ?_
      refine z_imul E dX3_walk_47 ?_
      refine z_iadd E dX3_walk_48 ?_
      refine z_callVv E hZ (k_setStep l D ad cI cR cS cL m hj (nI q) ((nI a) + ((nI (k + 1)) * (zway a b)))) gX3_walk_X2_setStep (n := 2) rfl rfl rfl (by decide +kernel) rfl ⟨Nat.le_of_ble_eq_true rfl, Nat.le_of_ble_eq_true rfl⟩ (C := RX2) rfl (3 * j) (cw_rig hj) (As := [.int (nI q), .int ((nI a) + ((nI (k + 1)) * (zway a b)))]) (rest := []) rfl (Nat.le_of_ble_eq_true rfl) ⟨Nat.le_of_ble_eq_true rfl, Nat.le_of_ble_eq_true rfl⟩ dX3_walk_49 (fun u hp => ?_)
      rw [hp, show sSetStep m j (nI q) ((nI a) + ((nI (k + 1)) * (zway a b))) = mset m (3 * j + 2) q (m (3 * j + 2) q + zway a b) from (if_neg hb1).trans (by rw [nI_clamp (by omega), hst, zstep1])]
      refine z_gm (fun m57 hm57 => ?_)
      have ym57 : m57 (87 + t) 2 = m (87 + t) 2 := by rw [hm57, mset_ne _ _ _ (by omega)]
      refine z_aload_n E dX3_walk_52 rfl 4 rfl ?_
      refine z_dup E dX3_walk_53 rfl ?_
      refine z_get E (87 + t) (cw_site ht) (C := RX3) (T := TX3) (N := 3) rfl (fun _ h => List.mem_cons_of_mem _ (List.mem_append_left _ (List.mem_append_right _ h))) 2 (by decide) (List.mem_of_getElem? (i := 5) (by decide +kernel)) rfl (v := .int (m (87 + t) 2)) (congrArg (fun z : Int32 => some (Value.int z)) ym57) dX3_walk_54 ?_
      refine z_iconst (v := 1) E dX3_walk_57 (by decide) ?_
      refine z_iadd E dX3_walk_58 ?_
      refine z_put E (87 + t) (cw_site ht) (C := RX3) (T := TX3) (N := 3) rfl (fun _ h => List.mem_cons_of_mem _ (List.mem_append_left _ (List.mem_append_right _ h))) tyX3 tyX3_ok nmX3 2 (by decide) (List.mem_of_getElem? (i := 5) (by decide +kernel)) rfl rfl rfl rfl (Nat.le_of_ble_eq_true rfl) (ws' := cw ad cI cR cS (mset m57 (87 + t) 2 ((m (87 + t) 2) + 1))) (cs_site ht 2 (by decide) (by decide) rfl) dX3_walk_59 ?_
      refine z_gm (fun m58 hm58 => ?_)
      refine z_aload_n E dX3_walk_62 rfl 5 rfl ?_
      refine z_callVi E hZ (k_stands l D ad cI cR cS cL m58 hj) gX3_walk_X2_stands (n := 0) rfl rfl rfl (by decide +kernel) rfl ⟨Nat.le_of_ble_eq_true rfl, Nat.le_of_ble_eq_true rfl⟩  (C := RX2) rfl (3 * j) (cw_rig hj) (As := []) (rest := []) rfl (Nat.le_of_ble_eq_true rfl) ⟨Nat.le_of_ble_eq_true rfl, Nat.le_of_ble_eq_true rfl⟩ dX3_walk_63 (fun r u hp => ?_)
      rw [hp.1, hp.2]
      refine z_if_ne (tgt := 76) E dX3_walk_66 (by decide) (fun c66 => ?_) (fun c66 => ?_)
      · skip
        refine z_iinc (v := nI (k + 1) + 1) (lv' := [(7, .int (nI (k + 1) + 1)), (6, .int (nI (zdist a b))), (5, .int (zway a b)), (4, .int (nI a)), (0, .ref (ad (87 + t))), (1, .ref (ad (3 * j))), (2, .int (nI q)), (3, .int (nI b))]) E dX3_walk_76 (q := 0) rfl rfl (by decide) rfl ?_
        refine z_goto (tgt := 32) E dX3_walk_79 (by decide) ?_
        refine z_eq (ws' := cw ad cI cR cS m58) (lv' := [(7, .int (nI (k + 1 + 1))), (6, .int (nI (zdist a b))), (5, .int (zway a b)), (4, .int (nI a)), (0, .ref (ad (87 + t))), (1, .ref (ad (3 * j))), (2, .int (nI q)), (3, .int (nI b))]) (st' := []) rfl (by rw [← nI_1 (k + 1)]) rfl ?_
        have hm2 : m58 = mset (mset m (3 * j + 2) q (m (3 * j + 2) q + zway a b)) (87 + t) 2 (m (87 + t) 2 + 1) := by rw [hm58, hm57]
        exact ih (n - 1) (m58, k + 1) (by omega) ⟨by show k + 1 + (n - 1) = _; omega, by show m58 (3 * j + 2) q = _; rw [hm2, mset_ne _ _ _ (by omega), mset_at, hst, zstep1], by show ¬ fBears (rv m58 j) (nI q) = 0; rw [fBears_congr (R' := rv m j) (by show m58 (3 * j) 7 = m (3 * j) 7; rw [hm2, mset_ne _ _ _ (by omega), mset_ne _ _ _ (by omega)])]; exact hb1, hgo.trans (by rw [show n = n - 1 + 1 by omega]; exact wkGo_go (by rw [hm2, wkM]) c66)⟩
      · skip
        refine z_aload_n E dX3_walk_69 rfl 4 rfl ?_
        refine z_aload_n E dX3_walk_70 rfl 5 rfl ?_
        refine z_callVv E hZ (k_fall l D ad cI cR cS cL m58 ht hj) gX3_walk_X3_fall (n := 1) rfl rfl rfl (by decide +kernel) rfl ⟨Nat.le_of_ble_eq_true rfl, Nat.le_of_ble_eq_true rfl⟩  (C := RX3) rfl (87 + t) (cw_site ht) (As := [.ref (ad (3 * j))]) (rest := []) rfl (Nat.le_of_ble_eq_true rfl) ⟨Nat.le_of_ble_eq_true rfl, Nat.le_of_ble_eq_true rfl⟩ dX3_walk_71 (fun u hp => ?_)
        rw [hp]
        refine z_gm (fun m59 hm59 => ?_)
        refine z_iconst (v := -1) E dX3_walk_74 (by decide) ?_
        exact z_iretM E hr hlocks (m59) rfl ⟨by rw [((show wkGo t j q (zway a b) (nI b) (zdist a b) mem = (-1, sFall m58 t j) from hgo.trans (by rw [show n = n - 1 + 1 by omega]; exact wkGo_fall (by rw [hm58, hm57, wkM]) c66)))], by rw [((show wkGo t j q (zway a b) (nI b) (zdist a b) mem = (-1, sFall m58 t j) from hgo.trans (by rw [show n = n - 1 + 1 by omega]; exact wkGo_fall (by rw [hm58, hm57, wkM]) c66))), hm59]⟩ (Nat.le_of_ble_eq_true rfl) (Nat.le_of_ble_eq_true rfl) dX3_walk_75
  · skip
    refine z_icmp_ge (tgt := 17) E dX3_walk_10 (by decide) (fun c10 => ?_) (fun c10 => ?_)
    · skip
      refine z_iconst (v := 1) E dX3_walk_17 (by decide) ?_
      exact J18 _ (if_pos ((nI_leI (by omega) (by omega)).mp c10)).symm
    · skip
      refine z_iconst (v := -1) E dX3_walk_13 (by decide) ?_
      refine z_goto (tgt := 18) E dX3_walk_14 (by decide) ?_
      exact J18 _ (if_neg (fun h => c10 ((nI_leI (by omega) (by omega)).mpr h))).symm
