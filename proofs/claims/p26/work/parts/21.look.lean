/-! looks that try on the trial rig -/
theorem upd_upd (f : Nat → Int32) (k : Nat) (v v' : Int32) : upd (upd f k v) k v' = upd f k v' := by
  funext b
  by_cases h : b = k <;> simp [upd, h]
theorem upd_ne (f : Nat → Int32) {k b : Nat} (v : Int32) (h : b ≠ k) : upd f k v b = f b := by simp [upd, h]
def fNRGo (R : Nat → Int32) : Nat → Nat → Int32
  | 0, _ => -1
  | n + 1, k => if fStands (upd R 5 (nI k)) = 0 then fNRGo R n (k + 1) else nI k
theorem fNRGo_s (R : Nat → Int32) (n k : Nat) : fNRGo R (n + 1) k = if fStands (upd R 5 (nI k)) = 0 then fNRGo R n (k + 1) else nI k := by rw [fNRGo]
def fBBGo (R : Nat → Int32) : Nat → Nat → Int32 → Int32 → Int32
  | 0, _, best, _ => best
  | n + 1, k, best, most => if fForces (upd R 0 (nI (10 + 5 * k))) ≤ most then fBBGo R n (k + 1) best most else fBBGo R n (k + 1) (nI (10 + 5 * k)) (fForces (upd R 0 (nI (10 + 5 * k))))
theorem fBBGo_s (R : Nat → Int32) (n k : Nat) (best most : Int32) : fBBGo R (n + 1) k best most = if fForces (upd R 0 (nI (10 + 5 * k))) ≤ most then fBBGo R n (k + 1) best most else fBBGo R n (k + 1) (nI (10 + 5 * k)) (fForces (upd R 0 (nI (10 + 5 * k)))) := by rw [fBBGo]
def fRKGo (R : Nat → Int32) : Nat → Nat → Int32 → Int32 → Int32
  | 0, _, worst, _ => worst
  | n + 1, k, worst, most => if worst = -1 then fRKGo R n (k + 1) (nI k) (fForces (rmR R k)) else if fForces (rmR R k) ≤ most then fRKGo R n (k + 1) worst most else fRKGo R n (k + 1) (nI k) (fForces (rmR R k))
theorem fRKGo_s (R : Nat → Int32) (n k : Nat) (worst most : Int32) : fRKGo R (n + 1) k worst most = if worst = -1 then fRKGo R n (k + 1) (nI k) (fForces (rmR R k)) else if fForces (rmR R k) ≤ most then fRKGo R n (k + 1) worst most else fRKGo R n (k + 1) (nI k) (fForces (rmR R k)) := by rw [fRKGo]
def fWLGo (R : Nat → Int32) : Nat → Nat → Int32 → Int32
  | 0, _, mask => mask
  | n + 1, k, mask => if fStands (upd R 4 (nI k)) = 0 then fWLGo R n (k + 1) mask else fWLGo R n (k + 1) (mask ||| (1 <<< (nI k &&& 31)))
theorem fWLGo_s (R : Nat → Int32) (n k : Nat) (mask : Int32) : fWLGo R (n + 1) k mask = if fStands (upd R 4 (nI k)) = 0 then fWLGo R n (k + 1) mask else fWLGo R n (k + 1) (mask ||| (1 <<< (nI k &&& 31))) := by rw [fWLGo]
def fHiGo (R : Nat → Int32) (t : Nat) : Nat → Nat → Int32
  | 0, k => nI k
  | n + 1, k => if fStands (upd R (11 + t) (nI (k + 1))) = 0 then nI k else fHiGo R t n (k + 1)
theorem fHiGo_s (R : Nat → Int32) (t n k : Nat) : fHiGo R t (n + 1) k = if fStands (upd R (11 + t) (nI (k + 1))) = 0 then nI k else fHiGo R t n (k + 1) := by rw [fHiGo]
def fHi (R : Nat → Int32) (t : Nat) : Int32 := fHiGo R t (10 - (R (11 + t)).toNatClampNeg) (R (11 + t)).toNatClampNeg
def fNR (R : Nat → Int32) : Int32 := fNRGo R 201 0
def fBB (R : Nat → Int32) : Int32 := fBBGo R 19 0 (-1) 0
def fRK (R : Nat → Int32) : Int32 := fRKGo R (R 7).toNatClampNeg 0 (-1) 0
def fWL (R : Nat → Int32) : Int32 := fWLGo R 4 0 0

def sNeeded (mem : zM) (x : Int32) : String ⊕ Int32 := if x < 0 ∨ 4 ≤ x then .inl "java/lang/IndexOutOfBoundsException" else .inr (fNR (rv mem x.toNatClampNeg))
def sBest (mem : zM) (x : Int32) : String ⊕ Int32 := if x < 0 ∨ 4 ≤ x then .inl "java/lang/IndexOutOfBoundsException" else .inr (fBB (rv mem x.toNatClampNeg))
def sRisk (mem : zM) (x : Int32) : String ⊕ Int32 := if x < 0 ∨ 4 ≤ x then .inl "java/lang/IndexOutOfBoundsException" else .inr (fRK (rv mem x.toNatClampNeg))
def sWalls (mem : zM) (x : Int32) : String ⊕ Int32 := if x < 0 ∨ 4 ≤ x then .inl "java/lang/IndexOutOfBoundsException" else .inr (fWL (rv mem x.toNatClampNeg))
def sHigh (mem : zM) (x b : Int32) : String ⊕ Int32 := if x < 0 ∨ 4 ≤ x then .inl "java/lang/IndexOutOfBoundsException" else if fBears (rv mem x.toNatClampNeg) b = 0 then .inl "java/lang/IndexOutOfBoundsException" else .inr (fHi (rv mem x.toNatClampNeg) b.toNatClampNeg)
set_option maxHeartbeats 1000000 in
set_option maxRecDepth 100000 in
theorem k_neededRope (l : Launch) (D : va_G) (ad : Nat → Nat) (cI cR cS cL : ClassId) (mem : zM) {c0 s0 : Nat} (hl : l.stackTraces = false) (x : Int32) (hcs : ∀ E : String, sNeeded mem x = .inl E → 1 ≤ c0 ∧ 6 ≤ s0) : zXi l yX5_neededRope wsX5_neededRope ({ frames := 7, cells := c0, slots := s0, locals := 111 }) D (cK cI cR cS cL) [.ref (ad 106), .int x] (cw ad cI cR cS mem) (fun r u => sNeeded mem x = .inr r ∧ zTr mem u) (cw ad cI cR cS) (fun E u => sNeeded mem x = .inl E ∧ u = mem) (cw ad cI cR cS) c0 s0 := by
  refine zMiX.of (cc := cX5_neededRope) (maxL := 3) (ret := (some .int)) (by decide +kernel) rfl (lv0 := [(0, .ref (ad 106)), (1, .int x)]) (Nat.le_of_ble_eq_true rfl) rfl ?_
  intro p e s m args below meth c E hZ hr hlocks htb hnm
  refine z_aload_n E dX5_neededRope_0 rfl 0 rfl ?_
  refine z_get E 106 cw_lad (C := RX5) (T := TX5) (N := 4) rfl (fun _ h => List.mem_cons_of_mem _ (List.mem_append_left _ (List.mem_append_left _ (List.mem_append_left _ (List.mem_append_right _ h))))) 3 (by decide) (List.mem_of_getElem? (i := 1) (by decide +kernel)) rfl (v := .ref (ad (3 * 28))) rfl dX5_neededRope_1 ?_
  refine z_aload_n E dX5_neededRope_4 rfl 0 rfl ?_
  refine z_iload_n E dX5_neededRope_5 rfl 1 rfl ?_
  by_cases hL : x < 0 ∨ 4 ≤ x
  · skip
    exact z_callVqX E hZ (k_rigOf_bad l D ad cI cR cS cL mem hl x hL) gX5_neededRope_X5_rigOf (n := 1) rfl rfl rfl (by decide +kernel) rfl ⟨(Nat.le_of_ble_eq_true rfl), (Nat.le_of_ble_eq_true rfl)⟩ (C := RX5) rfl 106 cw_lad (As := [.int x]) (rest := [.ref (ad (3 * 28))]) rfl (Nat.le_of_ble_eq_true rfl) ⟨(hcs _ (if_pos hL)).1, (hcs _ (if_pos hL)).2⟩ dX5_neededRope_6 (fun E0 u q9 ce H locs ls hpx hP hD hS hl1 h1 h2 h3 => zx_out (py := (fun E u => sNeeded mem x = .inl E ∧ u = mem)) (outy := cw ad cI cR cS) E htb hlocks u (⟨by rw [hpx.1]; exact (if_pos hL), hpx.2⟩) hP hD hS h1 h2 h3 (hcs _ (if_pos hL)).1 (hcs _ (if_pos hL)).2) (fun r u hp => hp.elim)
  have hj4 : x.toNatClampNeg < 4 := zcl4 hL
  refine z_callVq E hZ (k_rigOf l D ad cI cR cS cL mem x hL) gX5_neededRope_X5_rigOf (n := 1) rfl rfl rfl (by decide +kernel) rfl ⟨(Nat.le_of_ble_eq_true rfl), (Nat.le_of_ble_eq_true rfl)⟩ (C := RX5) rfl 106 cw_lad (As := [.int x]) (rest := [.ref (ad (3 * 28))]) rfl (Nat.le_of_ble_eq_true rfl) ⟨(Nat.le_of_ble_eq_true rfl), (Nat.le_of_ble_eq_true rfl)⟩ dX5_neededRope_6 (fun r u hp => ?_)
  rw [hp.1, hp.2]
  refine z_eq (ws' := cw ad cI cR cS mem) (lv' := [(0, .ref (ad 106)), (1, .int x)]) (st' := [.ref (ad (3 * x.toNatClampNeg)), .ref (ad (3 * 28))]) rfl rfl rfl ?_
  refine z_callVv E hZ (k_rigCopy l D ad cI cR cS cL mem (by omega) (by omega) (by omega)) gX5_neededRope_X2_copyFrom (n := 1) rfl rfl rfl (by decide +kernel) rfl ⟨Nat.le_of_ble_eq_true rfl, Nat.le_of_ble_eq_true rfl⟩  (C := RX2) rfl (3 * 28) (cw_rig (by omega)) (As := [.ref (ad (3 * x.toNatClampNeg))]) (rest := []) rfl (Nat.le_of_ble_eq_true rfl) ⟨Nat.zero_le _, Nat.zero_le _⟩ dX5_neededRope_9 (fun u hp => ?_)
  rw [hp]
  refine z_gm (fun m1 hm1 => ?_)
  refine z_iconst (v := 0) E dX5_neededRope_12 (by decide) ?_
  refine z_istore_n (lv' := [(2, .int 0), (0, .ref (ad 106)), (1, .int x)]) E dX5_neededRope_13 rfl (by decide) rfl ?_
  refine z_loop (σ := zM × Nat) (fun n y => y.2 + n = 201 ∧ (∀ v, upd (rv y.1 28) 5 v = upd (rv mem x.toNatClampNeg) 5 v) ∧ zTr mem y.1 ∧ fNRGo (rv mem x.toNatClampNeg) 201 0 = fNRGo (rv mem x.toNatClampNeg) n y.2) (fun y => cw ad cI cR cS y.1) (fun y => [(2, .int (nI y.2)), (0, .ref (ad 106)), (1, .int x)]) 14 0 0 ?_ (201) (m1, 0) ⟨rfl, fun v => by show upd (rv m1 28) 5 v = _; rw [hm1, rv_copy], by show zTr mem m1; rw [hm1]; exact zTr.rfl'.copy _, rfl⟩ rfl rfl rfl rfl rfl
  rintro n ⟨m, k⟩ ⟨hkn, hrm, htr, hgo⟩ ih
  dsimp only at hkn hrm htr hgo ⊢
  refine z_iload_n E dX5_neededRope_14 rfl 0 rfl ?_
  refine z_sipush (v := 200) E dX5_neededRope_15 (by decide) ?_
  refine z_icmp_gt (tgt := 47) E dX5_neededRope_18 (by decide) (fun c18 => ?_) (fun c18 => ?_)
  · skip
    refine z_iconst (v := -1) E dX5_neededRope_47 (by decide) ?_
    exact z_iretX E hr hlocks (m) rfl ⟨((if_neg hL).trans (congrArg Sum.inr (hgo.trans (by rw [show n = 0 by have := (nI_ltI (a := 200) (b := k) (by omega) (by omega)).mp c18; omega]; rfl)))), htr⟩ (Nat.zero_le _) (Nat.zero_le _) dX5_neededRope_48
  · skip
    obtain ⟨n, rfl⟩ : ∃ n1, n = n1 + 1 := ⟨n - 1, by have := znlt (a := 200) (b := k) (by omega) (by omega) c18; omega⟩
    refine z_aload_n E dX5_neededRope_21 rfl 1 rfl ?_
    refine z_get E 106 cw_lad (C := RX5) (T := TX5) (N := 4) rfl (fun _ h => List.mem_cons_of_mem _ (List.mem_append_left _ (List.mem_append_left _ (List.mem_append_left _ (List.mem_append_right _ h))))) 3 (by decide) (List.mem_of_getElem? (i := 1) (by decide +kernel)) rfl (v := .ref (ad (3 * 28))) rfl dX5_neededRope_22 ?_
    refine z_iload_n E dX5_neededRope_25 rfl 0 rfl ?_
    refine z_put E (3 * 28) (cw_rig (by omega)) (C := RX2) (T := TX2) (N := 10) rfl (fun _ h => List.mem_cons_of_mem _ (List.mem_append_left _ (List.mem_append_left _ (List.mem_append_right _ h)))) tyX2 tyX2_ok nmX2 5 (by decide) (List.mem_of_getElem? (i := 2) (by decide +kernel)) rfl rfl rfl rfl (Nat.le_of_ble_eq_true rfl) (ws' := cw ad cI cR cS (mset m (3 * 28) 5 (nI k))) (cs_rig (by omega) 5 (by decide) rfl) dX5_neededRope_26 ?_
    refine z_gm (fun m2 hm2 => ?_)
    refine z_aload_n E dX5_neededRope_29 rfl 1 rfl ?_
    refine z_get E 106 cw_lad (C := RX5) (T := TX5) (N := 4) rfl (fun _ h => List.mem_cons_of_mem _ (List.mem_append_left _ (List.mem_append_left _ (List.mem_append_left _ (List.mem_append_right _ h))))) 3 (by decide) (List.mem_of_getElem? (i := 1) (by decide +kernel)) rfl (v := .ref (ad (3 * 28))) rfl dX5_neededRope_30 ?_
    refine z_callVi E hZ (k_stands l D ad cI cR cS cL m2 (by omega)) gX5_neededRope_X2_stands (n := 0) rfl rfl rfl (by decide +kernel) rfl ⟨Nat.le_of_ble_eq_true rfl, Nat.le_of_ble_eq_true rfl⟩  (C := RX2) rfl (3 * 28) (cw_rig (by omega)) (As := []) (rest := []) rfl (Nat.le_of_ble_eq_true rfl) ⟨Nat.zero_le _, Nat.zero_le _⟩ dX5_neededRope_33 (fun r u hp => ?_)
    rw [hp.1, hp.2]
    have hv : rv m2 28 = upd (rv mem x.toNatClampNeg) 5 (nI k) := by rw [hm2, rv_fld (by omega)]; exact hrm _
    rw [hv]
    refine z_if_eq (tgt := 41) E dX5_neededRope_36 (by decide) (fun c36 => ?_) (fun c36 => ?_)
    · skip
      refine z_iinc (v := nI k + 1) (lv' := [(2, .int (nI k + 1)), (0, .ref (ad 106)), (1, .int x)]) E dX5_neededRope_41 (q := 0) rfl rfl (by decide) rfl ?_
      refine z_goto (tgt := 14) E dX5_neededRope_44 (by decide) ?_
      refine z_eq (ws' := cw ad cI cR cS m2) (lv' := [(2, .int (nI (k + 1))), (0, .ref (ad 106)), (1, .int x)]) (st' := []) rfl (by rw [← nI_1 k]) rfl ?_
      exact ih n (m2, k + 1) (by omega) ⟨by show k + 1 + n = 201; omega, fun v => by show upd (rv m2 28) 5 v = _; rw [hv, upd_upd], by show zTr mem m2; rw [hm2]; exact htr.set (by omega) (by omega) _ _, hgo.trans ((fNRGo_s _ _ _).trans (if_pos c36))⟩
    · skip
      refine z_iload_n E dX5_neededRope_39 rfl 0 rfl ?_
      exact z_iretX E hr hlocks (m2) rfl ⟨((if_neg hL).trans (congrArg Sum.inr (hgo.trans ((fNRGo_s _ _ _).trans (if_neg c36))))), (by rw [hm2]; exact htr.set (by omega) (by omega) _ _)⟩ (Nat.zero_le _) (Nat.zero_le _) dX5_neededRope_40
theorem nI_add5 (a : Nat) : nI a + 5 = nI (a + 5) := by
  rw [show nI (a + 5) = nI (a + 1 + 1 + 1 + 1 + 1) from rfl, ← nI_1, ← nI_1, ← nI_1, ← nI_1, ← nI_1, Int32.add_assoc, Int32.add_assoc, Int32.add_assoc, Int32.add_assoc]
  rfl
set_option maxHeartbeats 1000000 in
set_option maxRecDepth 100000 in
theorem k_bestBase (l : Launch) (D : va_G) (ad : Nat → Nat) (cI cR cS cL : ClassId) (mem : zM) {c0 s0 : Nat} (hl : l.stackTraces = false) (x : Int32) (hcs : ∀ E : String, sBest mem x = .inl E → 1 ≤ c0 ∧ 6 ≤ s0) : zXi l yX5_bestBase wsX5_bestBase ({ frames := 7, cells := c0, slots := s0, locals := 111 }) D (cK cI cR cS cL) [.ref (ad 106), .int x] (cw ad cI cR cS mem) (fun r u => sBest mem x = .inr r ∧ zTr mem u) (cw ad cI cR cS) (fun E u => sBest mem x = .inl E ∧ u = mem) (cw ad cI cR cS) c0 s0 := by
  refine zMiX.of (cc := cX5_bestBase) (maxL := 6) (ret := (some .int)) (by decide +kernel) rfl (lv0 := [(0, .ref (ad 106)), (1, .int x)]) (Nat.le_of_ble_eq_true rfl) rfl ?_
  intro p e s m args below meth c E hZ hr hlocks htb hnm
  refine z_aload_n E dX5_bestBase_0 rfl 0 rfl ?_
  refine z_get E 106 cw_lad (C := RX5) (T := TX5) (N := 4) rfl (fun _ h => List.mem_cons_of_mem _ (List.mem_append_left _ (List.mem_append_left _ (List.mem_append_left _ (List.mem_append_right _ h))))) 3 (by decide) (List.mem_of_getElem? (i := 1) (by decide +kernel)) rfl (v := .ref (ad (3 * 28))) rfl dX5_bestBase_1 ?_
  refine z_aload_n E dX5_bestBase_4 rfl 0 rfl ?_
  refine z_iload_n E dX5_bestBase_5 rfl 1 rfl ?_
  by_cases hL : x < 0 ∨ 4 ≤ x
  · skip
    exact z_callVqX E hZ (k_rigOf_bad l D ad cI cR cS cL mem hl x hL) gX5_bestBase_X5_rigOf (n := 1) rfl rfl rfl (by decide +kernel) rfl ⟨(Nat.le_of_ble_eq_true rfl), (Nat.le_of_ble_eq_true rfl)⟩ (C := RX5) rfl 106 cw_lad (As := [.int x]) (rest := [.ref (ad (3 * 28))]) rfl (Nat.le_of_ble_eq_true rfl) ⟨(hcs _ (if_pos hL)).1, (hcs _ (if_pos hL)).2⟩ dX5_bestBase_6 (fun E0 u q9 ce H locs ls hpx hP hD hS hl1 h1 h2 h3 => zx_out (py := (fun E u => sBest mem x = .inl E ∧ u = mem)) (outy := cw ad cI cR cS) E htb hlocks u (⟨by rw [hpx.1]; exact (if_pos hL), hpx.2⟩) hP hD hS h1 h2 h3 (hcs _ (if_pos hL)).1 (hcs _ (if_pos hL)).2) (fun r u hp => hp.elim)
  have hj4 : x.toNatClampNeg < 4 := zcl4 hL
  refine z_callVq E hZ (k_rigOf l D ad cI cR cS cL mem x hL) gX5_bestBase_X5_rigOf (n := 1) rfl rfl rfl (by decide +kernel) rfl ⟨(Nat.le_of_ble_eq_true rfl), (Nat.le_of_ble_eq_true rfl)⟩ (C := RX5) rfl 106 cw_lad (As := [.int x]) (rest := [.ref (ad (3 * 28))]) rfl (Nat.le_of_ble_eq_true rfl) ⟨(Nat.le_of_ble_eq_true rfl), (Nat.le_of_ble_eq_true rfl)⟩ dX5_bestBase_6 (fun r u hp => ?_)
  rw [hp.1, hp.2]
  refine z_eq (ws' := cw ad cI cR cS mem) (lv' := [(0, .ref (ad 106)), (1, .int x)]) (st' := [.ref (ad (3 * x.toNatClampNeg)), .ref (ad (3 * 28))]) rfl rfl rfl ?_
  refine z_callVv E hZ (k_rigCopy l D ad cI cR cS cL mem (by omega) (by omega) (by omega)) gX5_bestBase_X2_copyFrom (n := 1) rfl rfl rfl (by decide +kernel) rfl ⟨Nat.le_of_ble_eq_true rfl, Nat.le_of_ble_eq_true rfl⟩  (C := RX2) rfl (3 * 28) (cw_rig (by omega)) (As := [.ref (ad (3 * x.toNatClampNeg))]) (rest := []) rfl (Nat.le_of_ble_eq_true rfl) ⟨Nat.zero_le _, Nat.zero_le _⟩ dX5_bestBase_9 (fun u hp => ?_)
  rw [hp]
  refine z_gm (fun m1 hm1 => ?_)
  refine z_iconst (v := -1) E dX5_bestBase_12 (by decide) ?_
  refine z_istore_n (lv' := [(2, .int (-1)), (0, .ref (ad 106)), (1, .int x)]) E dX5_bestBase_13 rfl (by decide) rfl ?_
  refine z_iconst (v := 0) E dX5_bestBase_14 (by decide) ?_
  refine z_istore_n (lv' := [(3, .int 0), (2, .int (-1)), (0, .ref (ad 106)), (1, .int x)]) E dX5_bestBase_15 rfl (by decide) rfl ?_
  refine z_bipush (v := 10) E dX5_bestBase_16 (by decide) ?_
  refine z_istore (lv' := [(4, .int 10), (3, .int 0), (2, .int (-1)), (0, .ref (ad 106)), (1, .int x)]) E dX5_bestBase_18 (by decide) rfl ?_
  refine z_loop (σ := zM × Nat × Int32 × Int32) (fun n y => y.2.1 + n = 19 ∧ (∀ v, upd (rv y.1 28) 0 v = upd (rv mem x.toNatClampNeg) 0 v) ∧ zTr mem y.1 ∧ fBBGo (rv mem x.toNatClampNeg) 19 0 (-1) 0 = fBBGo (rv mem x.toNatClampNeg) n y.2.1 y.2.2.1 y.2.2.2) (fun y => cw ad cI cR cS y.1) (fun y => [(4, .int (nI (10 + 5 * y.2.1))), (3, .int y.2.2.2), (2, .int y.2.2.1), (0, .ref (ad 106)), (1, .int x)]) 20 0 0 ?_ (19) (m1, 0, -1, 0) ⟨rfl, fun v => by show upd (rv m1 28) 0 v = _; rw [hm1, rv_copy], by show zTr mem m1; rw [hm1]; exact zTr.rfl'.copy _, rfl⟩ rfl rfl rfl rfl rfl
  rintro n ⟨m, k, best, most⟩ ⟨hkn, hrm, htr, hgo⟩ ih
  dsimp only at hkn hrm htr hgo ⊢
  refine z_iload E dX5_bestBase_20 0 rfl ?_
  refine z_bipush (v := 100) E dX5_bestBase_22 (by decide) ?_
  refine z_icmp_gt (tgt := 63) E dX5_bestBase_24 (by decide) (fun c24 => ?_) (fun c24 => ?_)
  · skip
    refine z_iload_n E dX5_bestBase_63 rfl 2 rfl ?_
    exact z_iretX E hr hlocks (m) rfl ⟨((if_neg hL).trans (congrArg Sum.inr (hgo.trans (by rw [show n = 0 by have := (nI_ltI (a := 100) (b := 10 + 5 * k) (by omega) (by omega)).mp c24; omega]; rfl)))), htr⟩ (Nat.zero_le _) (Nat.zero_le _) dX5_bestBase_64
  · skip
    obtain ⟨n, rfl⟩ : ∃ n1, n = n1 + 1 := ⟨n - 1, by have := znlt (a := 100) (b := 10 + 5 * k) (by omega) (by omega) c24; omega⟩
    refine z_aload_n E dX5_bestBase_27 rfl 3 rfl ?_
    refine z_get E 106 cw_lad (C := RX5) (T := TX5) (N := 4) rfl (fun _ h => List.mem_cons_of_mem _ (List.mem_append_left _ (List.mem_append_left _ (List.mem_append_left _ (List.mem_append_right _ h))))) 3 (by decide) (List.mem_of_getElem? (i := 1) (by decide +kernel)) rfl (v := .ref (ad (3 * 28))) rfl dX5_bestBase_28 ?_
    refine z_iload E dX5_bestBase_31 0 rfl ?_
    refine z_put E (3 * 28) (cw_rig (by omega)) (C := RX2) (T := TX2) (N := 10) rfl (fun _ h => List.mem_cons_of_mem _ (List.mem_append_left _ (List.mem_append_left _ (List.mem_append_right _ h)))) tyX2 tyX2_ok nmX2 0 (by decide) (List.mem_of_getElem? (i := 2) (by decide +kernel)) rfl rfl rfl rfl (Nat.le_of_ble_eq_true rfl) (ws' := cw ad cI cR cS (mset m (3 * 28) 0 (nI (10 + 5 * k)))) (cs_rig (by omega) 0 (by decide) rfl) dX5_bestBase_33 ?_
    refine z_gm (fun m2 hm2 => ?_)
    refine z_aload_n E dX5_bestBase_36 rfl 3 rfl ?_
    refine z_get E 106 cw_lad (C := RX5) (T := TX5) (N := 4) rfl (fun _ h => List.mem_cons_of_mem _ (List.mem_append_left _ (List.mem_append_left _ (List.mem_append_left _ (List.mem_append_right _ h))))) 3 (by decide) (List.mem_of_getElem? (i := 1) (by decide +kernel)) rfl (v := .ref (ad (3 * 28))) rfl dX5_bestBase_37 ?_
    refine z_callVi E hZ (k_forces l D ad cI cR cS cL m2 (by omega)) gX5_bestBase_X2_forces (n := 0) rfl rfl rfl (by decide +kernel) rfl ⟨Nat.le_of_ble_eq_true rfl, Nat.le_of_ble_eq_true rfl⟩  (C := RX2) rfl (3 * 28) (cw_rig (by omega)) (As := []) (rest := []) rfl (Nat.le_of_ble_eq_true rfl) ⟨Nat.zero_le _, Nat.zero_le _⟩ dX5_bestBase_40 (fun r u hp => ?_)
    rw [hp.1, hp.2]
    have hv : rv m2 28 = upd (rv mem x.toNatClampNeg) 0 (nI (10 + 5 * k)) := by rw [hm2, rv_fld (by omega)]; exact hrm _
    rw [hv]
    generalize hfo : fForces (upd (rv mem x.toNatClampNeg) 0 (nI (10 + 5 * k))) = fo
    refine z_istore (lv' := [(5, .int fo), (4, .int (nI (10 + 5 * k))), (3, .int most), (2, .int best), (0, .ref (ad 106)), (1, .int x)]) E dX5_bestBase_43 (by decide) rfl ?_
    refine z_iload E dX5_bestBase_45 0 rfl ?_
    refine z_iload_n E dX5_bestBase_47 rfl 2 rfl ?_
    refine z_icmp_le (tgt := 57) E dX5_bestBase_48 (by decide) (fun c48 => ?_) (fun c48 => ?_)
    · skip
      refine z_iinc (v := nI (10 + 5 * k) + 5) (lv' := [(4, .int (nI (10 + 5 * k) + 5)), (5, .int fo), (3, .int most), (2, .int best), (0, .ref (ad 106)), (1, .int x)]) E dX5_bestBase_57 (q := 1) rfl rfl (by decide) rfl ?_
      refine z_goto (tgt := 20) E dX5_bestBase_60 (by decide) ?_
      refine z_lv [0, 2, 3, 4, 5] (lv' := [(4, .int (nI (10 + 5 * k) + 5)), (3, .int most), (2, .int best), (0, .ref (ad 106)), (1, .int x)]) rfl ?_
      refine z_eq (ws' := cw ad cI cR cS m2) (lv' := [(4, .int (nI (10 + 5 * (k + 1)))), (3, .int most), (2, .int best), (0, .ref (ad 106)), (1, .int x)]) (st' := []) rfl (by rw [show 10 + 5 * (k + 1) = 10 + 5 * k + 5 by omega, ← nI_add5 (10 + 5 * k)]) rfl ?_
      exact ih n (m2, k + 1, best, most) (by omega) ⟨by show k + 1 + n = 19; omega, fun v => by show upd (rv m2 28) 0 v = _; rw [hv, upd_upd], by show zTr mem m2; rw [hm2]; exact htr.set (by omega) (by omega) _ _, hgo.trans ((fBBGo_s _ _ _ _ _).trans (by rw [hfo]; exact if_pos c48))⟩
    · skip
      refine z_iload E dX5_bestBase_51 1 rfl ?_
      refine z_istore_n (lv' := [(2, .int (nI (10 + 5 * k))), (5, .int fo), (4, .int (nI (10 + 5 * k))), (3, .int most), (0, .ref (ad 106)), (1, .int x)]) E dX5_bestBase_53 rfl (by decide) rfl ?_
      refine z_iload E dX5_bestBase_54 1 rfl ?_
      refine z_istore_n (lv' := [(3, .int fo), (2, .int (nI (10 + 5 * k))), (5, .int fo), (4, .int (nI (10 + 5 * k))), (0, .ref (ad 106)), (1, .int x)]) E dX5_bestBase_56 rfl (by decide) rfl ?_
      refine z_iinc (v := nI (10 + 5 * k) + 5) (lv' := [(4, .int (nI (10 + 5 * k) + 5)), (3, .int fo), (2, .int (nI (10 + 5 * k))), (5, .int fo), (0, .ref (ad 106)), (1, .int x)]) E dX5_bestBase_57 (q := 3) rfl rfl (by decide) rfl ?_
      refine z_goto (tgt := 20) E dX5_bestBase_60 (by decide) ?_
      refine z_lv [0, 1, 2, 4, 5] (lv' := [(4, .int (nI (10 + 5 * k) + 5)), (3, .int fo), (2, .int (nI (10 + 5 * k))), (0, .ref (ad 106)), (1, .int x)]) rfl ?_
      refine z_eq (ws' := cw ad cI cR cS m2) (lv' := [(4, .int (nI (10 + 5 * (k + 1)))), (3, .int fo), (2, .int (nI (10 + 5 * k))), (0, .ref (ad 106)), (1, .int x)]) (st' := []) rfl (by rw [show 10 + 5 * (k + 1) = 10 + 5 * k + 5 by omega, ← nI_add5 (10 + 5 * k)]) rfl ?_
      exact ih n (m2, k + 1, nI (10 + 5 * k), fo) (by omega) ⟨by show k + 1 + n = 19; omega, fun v => by show upd (rv m2 28) 0 v = _; rw [hv, upd_upd], by show zTr mem m2; rw [hm2]; exact htr.set (by omega) (by omega) _ _, hgo.trans ((fBBGo_s _ _ _ _ _).trans (by rw [hfo]; exact if_neg c48))⟩
set_option maxHeartbeats 1000000 in
set_option maxRecDepth 100000 in
theorem k_walls (l : Launch) (D : va_G) (ad : Nat → Nat) (cI cR cS cL : ClassId) (mem : zM) {c0 s0 : Nat} (hl : l.stackTraces = false) (x : Int32) (hcs : ∀ E : String, sWalls mem x = .inl E → 1 ≤ c0 ∧ 6 ≤ s0) : zXi l yX5_walls wsX5_walls ({ frames := 7, cells := c0, slots := s0, locals := 111 }) D (cK cI cR cS cL) [.ref (ad 106), .int x] (cw ad cI cR cS mem) (fun r u => sWalls mem x = .inr r ∧ zTr mem u) (cw ad cI cR cS) (fun E u => sWalls mem x = .inl E ∧ u = mem) (cw ad cI cR cS) c0 s0 := by
  refine zMiX.of (cc := cX5_walls) (maxL := 4) (ret := (some .int)) (by decide +kernel) rfl (lv0 := [(0, .ref (ad 106)), (1, .int x)]) (Nat.le_of_ble_eq_true rfl) rfl ?_
  intro p e s m args below meth c E hZ hr hlocks htb hnm
  refine z_aload_n E dX5_walls_0 rfl 0 rfl ?_
  refine z_get E 106 cw_lad (C := RX5) (T := TX5) (N := 4) rfl (fun _ h => List.mem_cons_of_mem _ (List.mem_append_left _ (List.mem_append_left _ (List.mem_append_left _ (List.mem_append_right _ h))))) 3 (by decide) (List.mem_of_getElem? (i := 1) (by decide +kernel)) rfl (v := .ref (ad (3 * 28))) rfl dX5_walls_1 ?_
  refine z_aload_n E dX5_walls_4 rfl 0 rfl ?_
  refine z_iload_n E dX5_walls_5 rfl 1 rfl ?_
  by_cases hL : x < 0 ∨ 4 ≤ x
  · skip
    exact z_callVqX E hZ (k_rigOf_bad l D ad cI cR cS cL mem hl x hL) gX5_walls_X5_rigOf (n := 1) rfl rfl rfl (by decide +kernel) rfl ⟨(Nat.le_of_ble_eq_true rfl), (Nat.le_of_ble_eq_true rfl)⟩ (C := RX5) rfl 106 cw_lad (As := [.int x]) (rest := [.ref (ad (3 * 28))]) rfl (Nat.le_of_ble_eq_true rfl) ⟨(hcs _ (if_pos hL)).1, (hcs _ (if_pos hL)).2⟩ dX5_walls_6 (fun E0 u q9 ce H locs ls hpx hP hD hS hl1 h1 h2 h3 => zx_out (py := (fun E u => sWalls mem x = .inl E ∧ u = mem)) (outy := cw ad cI cR cS) E htb hlocks u (⟨by rw [hpx.1]; exact (if_pos hL), hpx.2⟩) hP hD hS h1 h2 h3 (hcs _ (if_pos hL)).1 (hcs _ (if_pos hL)).2) (fun r u hp => hp.elim)
  have hj4 : x.toNatClampNeg < 4 := zcl4 hL
  refine z_callVq E hZ (k_rigOf l D ad cI cR cS cL mem x hL) gX5_walls_X5_rigOf (n := 1) rfl rfl rfl (by decide +kernel) rfl ⟨(Nat.le_of_ble_eq_true rfl), (Nat.le_of_ble_eq_true rfl)⟩ (C := RX5) rfl 106 cw_lad (As := [.int x]) (rest := [.ref (ad (3 * 28))]) rfl (Nat.le_of_ble_eq_true rfl) ⟨(Nat.le_of_ble_eq_true rfl), (Nat.le_of_ble_eq_true rfl)⟩ dX5_walls_6 (fun r u hp => ?_)
  rw [hp.1, hp.2]
  refine z_eq (ws' := cw ad cI cR cS mem) (lv' := [(0, .ref (ad 106)), (1, .int x)]) (st' := [.ref (ad (3 * x.toNatClampNeg)), .ref (ad (3 * 28))]) rfl rfl rfl ?_
  refine z_callVv E hZ (k_rigCopy l D ad cI cR cS cL mem (by omega) (by omega) (by omega)) gX5_walls_X2_copyFrom (n := 1) rfl rfl rfl (by decide +kernel) rfl ⟨Nat.le_of_ble_eq_true rfl, Nat.le_of_ble_eq_true rfl⟩  (C := RX2) rfl (3 * 28) (cw_rig (by omega)) (As := [.ref (ad (3 * x.toNatClampNeg))]) (rest := []) rfl (Nat.le_of_ble_eq_true rfl) ⟨Nat.zero_le _, Nat.zero_le _⟩ dX5_walls_9 (fun u hp => ?_)
  rw [hp]
  refine z_gm (fun m1 hm1 => ?_)
  refine z_iconst (v := 0) E dX5_walls_12 (by decide) ?_
  refine z_istore_n (lv' := [(2, .int 0), (0, .ref (ad 106)), (1, .int x)]) E dX5_walls_13 rfl (by decide) rfl ?_
  refine z_iconst (v := 0) E dX5_walls_14 (by decide) ?_
  refine z_istore_n (lv' := [(3, .int 0), (2, .int 0), (0, .ref (ad 106)), (1, .int x)]) E dX5_walls_15 rfl (by decide) rfl ?_
  refine z_loop (σ := zM × Nat × Int32) (fun n y => y.2.1 + n = 4 ∧ (∀ v, upd (rv y.1 28) 4 v = upd (rv mem x.toNatClampNeg) 4 v) ∧ zTr mem y.1 ∧ fWLGo (rv mem x.toNatClampNeg) 4 0 0 = fWLGo (rv mem x.toNatClampNeg) n y.2.1 y.2.2) (fun y => cw ad cI cR cS y.1) (fun y => [(3, .int (nI y.2.1)), (2, .int y.2.2), (0, .ref (ad 106)), (1, .int x)]) 16 0 0 ?_ (4) (m1, 0, 0) ⟨rfl, fun v => by show upd (rv m1 28) 4 v = _; rw [hm1, rv_copy], by show zTr mem m1; rw [hm1]; exact zTr.rfl'.copy _, rfl⟩ rfl rfl rfl rfl rfl
  rintro n ⟨m, k, mask⟩ ⟨hkn, hrm, htr, hgo⟩ ih
  dsimp only at hkn hrm htr hgo ⊢
  refine z_iload_n E dX5_walls_16 rfl 0 rfl ?_
  refine z_iconst (v := 4) E dX5_walls_17 (by decide) ?_
  refine z_icmp_ge (tgt := 51) E dX5_walls_18 (by decide) (fun c18 => ?_) (fun c18 => ?_)
  · skip
    refine z_iload_n E dX5_walls_51 rfl 1 rfl ?_
    exact z_iretX E hr hlocks (m) rfl ⟨((if_neg hL).trans (congrArg Sum.inr (hgo.trans (by rw [show n = 0 by have := (nI_leI (a := 4) (b := k) (by omega) (by omega)).mp c18; omega]; rfl)))), htr⟩ (Nat.zero_le _) (Nat.zero_le _) dX5_walls_52
  · skip
    obtain ⟨n, rfl⟩ : ∃ n1, n = n1 + 1 := ⟨n - 1, by have := zklt (k := k) (L := 4) (by omega) (by omega) c18; omega⟩
    refine z_aload_n E dX5_walls_21 rfl 2 rfl ?_
    refine z_get E 106 cw_lad (C := RX5) (T := TX5) (N := 4) rfl (fun _ h => List.mem_cons_of_mem _ (List.mem_append_left _ (List.mem_append_left _ (List.mem_append_left _ (List.mem_append_right _ h))))) 3 (by decide) (List.mem_of_getElem? (i := 1) (by decide +kernel)) rfl (v := .ref (ad (3 * 28))) rfl dX5_walls_22 ?_
    refine z_iload_n E dX5_walls_25 rfl 0 rfl ?_
    refine z_put E (3 * 28) (cw_rig (by omega)) (C := RX2) (T := TX2) (N := 10) rfl (fun _ h => List.mem_cons_of_mem _ (List.mem_append_left _ (List.mem_append_left _ (List.mem_append_right _ h)))) tyX2 tyX2_ok nmX2 4 (by decide) (List.mem_of_getElem? (i := 2) (by decide +kernel)) rfl rfl rfl rfl (Nat.le_of_ble_eq_true rfl) (ws' := cw ad cI cR cS (mset m (3 * 28) 4 (nI k))) (cs_rig (by omega) 4 (by decide) rfl) dX5_walls_26 ?_
    refine z_gm (fun m2 hm2 => ?_)
    refine z_aload_n E dX5_walls_29 rfl 2 rfl ?_
    refine z_get E 106 cw_lad (C := RX5) (T := TX5) (N := 4) rfl (fun _ h => List.mem_cons_of_mem _ (List.mem_append_left _ (List.mem_append_left _ (List.mem_append_left _ (List.mem_append_right _ h))))) 3 (by decide) (List.mem_of_getElem? (i := 1) (by decide +kernel)) rfl (v := .ref (ad (3 * 28))) rfl dX5_walls_30 ?_
    refine z_callVi E hZ (k_stands l D ad cI cR cS cL m2 (by omega)) gX5_walls_X2_stands (n := 0) rfl rfl rfl (by decide +kernel) rfl ⟨Nat.le_of_ble_eq_true rfl, Nat.le_of_ble_eq_true rfl⟩  (C := RX2) rfl (3 * 28) (cw_rig (by omega)) (As := []) (rest := []) rfl (Nat.le_of_ble_eq_true rfl) ⟨Nat.zero_le _, Nat.zero_le _⟩ dX5_walls_33 (fun r u hp => ?_)
    rw [hp.1, hp.2]
    have hv : rv m2 28 = upd (rv mem x.toNatClampNeg) 4 (nI k) := by rw [hm2, rv_fld (by omega)]; exact hrm _
    rw [hv]
    refine z_if_eq (tgt := 45) E dX5_walls_36 (by decide) (fun c36 => ?_) (fun c36 => ?_)
    · skip
      refine z_iinc (v := nI k + 1) (lv' := [(3, .int (nI k + 1)), (2, .int mask), (0, .ref (ad 106)), (1, .int x)]) E dX5_walls_45 (q := 0) rfl rfl (by decide) rfl ?_
      refine z_goto (tgt := 16) E dX5_walls_48 (by decide) ?_
      refine z_eq (ws' := cw ad cI cR cS m2) (lv' := [(3, .int (nI (k + 1))), (2, .int mask), (0, .ref (ad 106)), (1, .int x)]) (st' := []) rfl (by rw [← nI_1 k]) rfl ?_
      exact ih n (m2, k + 1, mask) (by omega) ⟨by show k + 1 + n = 4; omega, fun v => by show upd (rv m2 28) 4 v = _; rw [hv, upd_upd], by show zTr mem m2; rw [hm2]; exact htr.set (by omega) (by omega) _ _, hgo.trans ((fWLGo_s _ _ _ _).trans (if_pos c36))⟩
    · skip
      refine z_iload_n E dX5_walls_39 rfl 1 rfl ?_
      refine z_iconst (v := 1) E dX5_walls_40 (by decide) ?_
      refine z_iload_n E dX5_walls_41 rfl 0 rfl ?_
      refine z_ishl E dX5_walls_42 ?_
      refine z_ior E dX5_walls_43 ?_
      refine z_istore_n (lv' := [(2, .int (mask ||| (1 <<< ((nI k) &&& 31)))), (3, .int (nI k)), (0, .ref (ad 106)), (1, .int x)]) E dX5_walls_44 rfl (by decide) rfl ?_
      refine z_iinc (v := nI k + 1) (lv' := [(3, .int (nI k + 1)), (2, .int (mask ||| (1 <<< ((nI k) &&& 31)))), (0, .ref (ad 106)), (1, .int x)]) E dX5_walls_45 (q := 1) rfl rfl (by decide) rfl ?_
      refine z_goto (tgt := 16) E dX5_walls_48 (by decide) ?_
      refine z_eq (ws' := cw ad cI cR cS m2) (lv' := [(3, .int (nI (k + 1))), (2, .int (mask ||| (1 <<< (nI k &&& 31)))), (0, .ref (ad 106)), (1, .int x)]) (st' := []) rfl (by rw [← nI_1 k]) rfl ?_
      exact ih n (m2, k + 1, mask ||| (1 <<< (nI k &&& 31))) (by omega) ⟨by show k + 1 + n = 4; omega, fun v => by show upd (rv m2 28) 4 v = _; rw [hv, upd_upd], by show zTr mem m2; rw [hm2]; exact htr.set (by omega) (by omega) _ _, hgo.trans ((fWLGo_s _ _ _ _).trans (if_neg c36))⟩
set_option maxHeartbeats 1000000 in
set_option maxRecDepth 100000 in
theorem k_riskiest (l : Launch) (D : va_G) (ad : Nat → Nat) (cI cR cS cL : ClassId) (mem : zM) {c0 s0 : Nat} (hl : l.stackTraces = false) (x : Int32) (h3 : ∀ i, i < 4 → ∃ a, a ≤ 3 ∧ mem (3 * i) 7 = nI a) (hcs : ∀ E : String, sRisk mem x = .inl E → 1 ≤ c0 ∧ 6 ≤ s0) : zXi l yX5_riskiest wsX5_riskiest ({ frames := 7, cells := c0, slots := s0, locals := 111 }) D (cK cI cR cS cL) [.ref (ad 106), .int x] (cw ad cI cR cS mem) (fun r u => sRisk mem x = .inr r ∧ zTr mem u) (cw ad cI cR cS) (fun E u => sRisk mem x = .inl E ∧ u = mem) (cw ad cI cR cS) c0 s0 := by
  refine zMiX.of (cc := cX5_riskiest) (maxL := 7) (ret := (some .int)) (by decide +kernel) rfl (lv0 := [(0, .ref (ad 106)), (1, .int x)]) (Nat.le_of_ble_eq_true rfl) rfl ?_
  intro p e s m args below meth c E hZ hr hlocks htb hnm
  refine z_aload_n E dX5_riskiest_0 rfl 0 rfl ?_
  refine z_iload_n E dX5_riskiest_1 rfl 1 rfl ?_
  by_cases hL : x < 0 ∨ 4 ≤ x
  · skip
    exact z_callVqX E hZ (k_rigOf_bad l D ad cI cR cS cL mem hl x hL) gX5_riskiest_X5_rigOf (n := 1) rfl rfl rfl (by decide +kernel) rfl ⟨(Nat.le_of_ble_eq_true rfl), (Nat.le_of_ble_eq_true rfl)⟩ (C := RX5) rfl 106 cw_lad (As := [.int x]) (rest := []) rfl (Nat.le_of_ble_eq_true rfl) ⟨(hcs _ (if_pos hL)).1, (hcs _ (if_pos hL)).2⟩ dX5_riskiest_2 (fun E0 u q9 ce H locs ls hpx hP hD hS hl1 h1 h2 h3 => zx_out (py := (fun E u => sRisk mem x = .inl E ∧ u = mem)) (outy := cw ad cI cR cS) E htb hlocks u (⟨by rw [hpx.1]; exact (if_pos hL), hpx.2⟩) hP hD hS h1 h2 h3 (hcs _ (if_pos hL)).1 (hcs _ (if_pos hL)).2) (fun r u hp => hp.elim)
  have hj4 : x.toNatClampNeg < 4 := zcl4 hL
  refine z_callVq E hZ (k_rigOf l D ad cI cR cS cL mem x hL) gX5_riskiest_X5_rigOf (n := 1) rfl rfl rfl (by decide +kernel) rfl ⟨(Nat.le_of_ble_eq_true rfl), (Nat.le_of_ble_eq_true rfl)⟩ (C := RX5) rfl 106 cw_lad (As := [.int x]) (rest := []) rfl (Nat.le_of_ble_eq_true rfl) ⟨(Nat.le_of_ble_eq_true rfl), (Nat.le_of_ble_eq_true rfl)⟩ dX5_riskiest_2 (fun r u hp => ?_)
  rw [hp.1, hp.2]
  refine z_eq (ws' := cw ad cI cR cS mem) (lv' := [(0, .ref (ad 106)), (1, .int x)]) (st' := [.ref (ad (3 * x.toNatClampNeg))]) rfl rfl rfl ?_
  refine z_astore_n (lv' := [(2, .ref (ad (3 * x.toNatClampNeg))), (0, .ref (ad 106)), (1, .int x)]) E dX5_riskiest_5 rfl (by decide) rfl ?_
  obtain ⟨pp, hpp, h7⟩ := h3 _ hj4
  refine z_iconst (v := -1) E dX5_riskiest_6 (by decide) ?_
  refine z_istore_n (lv' := [(3, .int (-1)), (2, .ref (ad (3 * x.toNatClampNeg))), (0, .ref (ad 106)), (1, .int x)]) E dX5_riskiest_7 rfl (by decide) rfl ?_
  refine z_iconst (v := 0) E dX5_riskiest_8 (by decide) ?_
  refine z_istore (lv' := [(4, .int 0), (3, .int (-1)), (2, .ref (ad (3 * x.toNatClampNeg))), (0, .ref (ad 106)), (1, .int x)]) E dX5_riskiest_9 (by decide) rfl ?_
  refine z_iconst (v := 0) E dX5_riskiest_11 (by decide) ?_
  refine z_istore (lv' := [(5, .int 0), (4, .int 0), (3, .int (-1)), (2, .ref (ad (3 * x.toNatClampNeg))), (0, .ref (ad 106)), (1, .int x)]) E dX5_riskiest_12 (by decide) rfl ?_
  refine z_loop (σ := zM × Nat × Int32 × Int32) (fun n y => y.2.1 + n = pp ∧ zTr mem y.1 ∧ fRKGo (rv mem x.toNatClampNeg) pp 0 (-1) 0 = fRKGo (rv mem x.toNatClampNeg) n y.2.1 y.2.2.1 y.2.2.2) (fun y => cw ad cI cR cS y.1) (fun y => [(5, .int (nI y.2.1)), (4, .int y.2.2.2), (3, .int y.2.2.1), (2, .ref (ad (3 * x.toNatClampNeg))), (0, .ref (ad 106)), (1, .int x)]) 14 0 0 ?_ (pp) (mem, 0, -1, 0) ⟨Nat.zero_add _, zTr.rfl', rfl⟩ rfl rfl rfl rfl rfl
  rintro n ⟨m, k, worst, most⟩ ⟨hkn, htr, hgo⟩ ih
  dsimp only at hkn htr hgo ⊢
  have h7m : m (3 * x.toNatClampNeg) 7 = nI pp := by rw [htr _ (Or.inl (by omega)), h7]
  refine z_iload E dX5_riskiest_14 0 rfl ?_
  refine z_aload_n E dX5_riskiest_16 rfl 3 rfl ?_
  refine z_get E (3 * x.toNatClampNeg) (cw_rig (by omega)) (C := RX2) (T := TX2) (N := 10) rfl (fun _ h => List.mem_cons_of_mem _ (List.mem_append_left _ (List.mem_append_left _ (List.mem_append_left _ (List.mem_append_right _ h))))) 7 (by decide) (List.mem_of_getElem? (i := 1) (by decide +kernel)) rfl (v := .int (nI pp)) (congrArg (fun z : Int32 => some (Value.int z)) h7m) dX5_riskiest_17 ?_
  refine z_icmp_ge (tgt := 74) E dX5_riskiest_20 (by decide) (fun c20 => ?_) (fun c20 => ?_)
  · skip
    refine z_iload_n E dX5_riskiest_74 rfl 2 rfl ?_
    exact z_iretX E hr hlocks (m) rfl ⟨((if_neg hL).trans (congrArg Sum.inr (show fRK (rv mem x.toNatClampNeg) = worst by unfold fRK; rw [show (rv mem x.toNatClampNeg) 7 = nI pp from h7, nI_clamp (by omega), hgo, show n = 0 by have := (nI_leI (a := pp) (b := k) (by omega) (by omega)).mp c20; omega]; rfl))), htr⟩ (Nat.zero_le _) (Nat.zero_le _) dX5_riskiest_75
  · skip
    obtain ⟨n, rfl⟩ : ∃ n1, n = n1 + 1 := ⟨n - 1, by have := zklt (k := k) (L := pp) (by omega) (by omega) c20; omega⟩
    refine z_aload_n E dX5_riskiest_23 rfl 4 rfl ?_
    refine z_get E 106 cw_lad (C := RX5) (T := TX5) (N := 4) rfl (fun _ h => List.mem_cons_of_mem _ (List.mem_append_left _ (List.mem_append_left _ (List.mem_append_right _ h)))) 3 (by decide) (List.mem_of_getElem? (i := 2) (by decide +kernel)) rfl (v := .ref (ad (3 * 28))) rfl dX5_riskiest_24 ?_
    refine z_aload_n E dX5_riskiest_27 rfl 3 rfl ?_
    refine z_callVv E hZ (k_rigCopy l D ad cI cR cS cL m (by omega) (by omega) (by omega)) gX5_riskiest_X2_copyFrom (n := 1) rfl rfl rfl (by decide +kernel) rfl ⟨Nat.le_of_ble_eq_true rfl, Nat.le_of_ble_eq_true rfl⟩  (C := RX2) rfl (3 * 28) (cw_rig (by omega)) (As := [.ref (ad (3 * x.toNatClampNeg))]) (rest := []) rfl (Nat.le_of_ble_eq_true rfl) ⟨Nat.zero_le _, Nat.zero_le _⟩ dX5_riskiest_28 (fun u hp => ?_)
    rw [hp]
    refine z_gm (fun m1 hm1 => ?_)
    refine z_aload_n E dX5_riskiest_31 rfl 4 rfl ?_
    refine z_get E 106 cw_lad (C := RX5) (T := TX5) (N := 4) rfl (fun _ h => List.mem_cons_of_mem _ (List.mem_append_left _ (List.mem_append_left _ (List.mem_append_right _ h)))) 3 (by decide) (List.mem_of_getElem? (i := 2) (by decide +kernel)) rfl (v := .ref (ad (3 * 28))) rfl dX5_riskiest_32 ?_
    refine z_iload E dX5_riskiest_35 0 rfl ?_
    refine z_callVv E hZ (k_remove l D ad cI cR cS cL m1 (by omega) (nI k)) gX5_riskiest_X2_remove (n := 1) rfl rfl rfl (by decide +kernel) rfl ⟨Nat.le_of_ble_eq_true rfl, Nat.le_of_ble_eq_true rfl⟩  (C := RX2) rfl (3 * 28) (cw_rig (by omega)) (As := [.int (nI k)]) (rest := []) rfl (Nat.le_of_ble_eq_true rfl) ⟨Nat.zero_le _, Nat.zero_le _⟩ dX5_riskiest_37 (fun u hp => ?_)
    rw [hp]
    refine z_gm (fun m2 hm2 => ?_)
    refine z_aload_n E dX5_riskiest_40 rfl 4 rfl ?_
    refine z_get E 106 cw_lad (C := RX5) (T := TX5) (N := 4) rfl (fun _ h => List.mem_cons_of_mem _ (List.mem_append_left _ (List.mem_append_left _ (List.mem_append_right _ h)))) 3 (by decide) (List.mem_of_getElem? (i := 2) (by decide +kernel)) rfl (v := .ref (ad (3 * 28))) rfl dX5_riskiest_41 ?_
    refine z_callVi E hZ (k_forces l D ad cI cR cS cL m2 (by omega)) gX5_riskiest_X2_forces (n := 0) rfl rfl rfl (by decide +kernel) rfl ⟨Nat.le_of_ble_eq_true rfl, Nat.le_of_ble_eq_true rfl⟩  (C := RX2) rfl (3 * 28) (cw_rig (by omega)) (As := []) (rest := []) rfl (Nat.le_of_ble_eq_true rfl) ⟨Nat.zero_le _, Nat.zero_le _⟩ dX5_riskiest_44 (fun r u hp => ?_)
    rw [hp.1, hp.2]
    have hr0 : rv m1 28 = rv mem x.toNatClampNeg := by rw [hm1, rv_copy]; exact htr.rv (by omega)
    have hb : ¬ fBears (rv m1 28) (nI k) = 0 := by
      rw [hr0]; unfold fBears
      rw [if_neg (nI_pos (by omega)), if_neg (show ¬ (rv mem x.toNatClampNeg) 7 ≤ nI k by rw [show (rv mem x.toNatClampNeg) 7 = nI pp from h7]; exact fun h => by have := (nI_leI (by omega) (by omega)).mp h; omega), if_neg (show ¬ (3 : Int32) ≤ nI k from fun h => by have := (nI_leI (a := 3) (b := k) (by omega) (by omega)).mp h; omega)]
      decide
    have hv : rv m2 28 = rmR (rv mem x.toNatClampNeg) k := by rw [hm2, rv_remove hb, hr0, nI_clamp (by omega)]
    have htr2 : zTr mem m2 := by rw [hm2, hm1]; exact (htr.copy _).remove _
    rw [hv]
    generalize hfo : fForces (rmR (rv mem x.toNatClampNeg) k) = fo
    refine z_istore (lv' := [(6, .int fo), (5, .int (nI k)), (4, .int most), (3, .int worst), (2, .ref (ad (3 * x.toNatClampNeg))), (0, .ref (ad 106)), (1, .int x)]) E dX5_riskiest_47 (by decide) rfl ?_
    refine z_iload_n E dX5_riskiest_49 rfl 3 rfl ?_
    refine z_iconst (v := -1) E dX5_riskiest_50 (by decide) ?_
    refine z_icmp_eq (tgt := 61) E dX5_riskiest_51 (by decide) (fun c51 => ?_) (fun c51 => ?_)
    · skip
      refine z_iload E dX5_riskiest_61 1 rfl ?_
      refine z_istore_n (lv' := [(3, .int (nI k)), (6, .int fo), (5, .int (nI k)), (4, .int most), (2, .ref (ad (3 * x.toNatClampNeg))), (0, .ref (ad 106)), (1, .int x)]) E dX5_riskiest_63 rfl (by decide) rfl ?_
      refine z_iload E dX5_riskiest_64 1 rfl ?_
      refine z_istore (lv' := [(4, .int fo), (3, .int (nI k)), (6, .int fo), (5, .int (nI k)), (2, .ref (ad (3 * x.toNatClampNeg))), (0, .ref (ad 106)), (1, .int x)]) E dX5_riskiest_66 (by decide) rfl ?_
      refine z_iinc (v := nI k + 1) (lv' := [(5, .int (nI k + 1)), (4, .int fo), (3, .int (nI k)), (6, .int fo), (2, .ref (ad (3 * x.toNatClampNeg))), (0, .ref (ad 106)), (1, .int x)]) E dX5_riskiest_68 (q := 3) rfl rfl (by decide) rfl ?_
      refine z_goto (tgt := 14) E dX5_riskiest_71 (by decide) ?_
      refine z_lv [0, 1, 2, 4, 5, 6] (lv' := [(5, .int (nI k + 1)), (4, .int fo), (3, .int (nI k)), (2, .ref (ad (3 * x.toNatClampNeg))), (0, .ref (ad 106)), (1, .int x)]) rfl ?_
      refine z_eq (ws' := cw ad cI cR cS m2) (lv' := [(5, .int (nI (k + 1))), (4, .int fo), (3, .int (nI k)), (2, .ref (ad (3 * x.toNatClampNeg))), (0, .ref (ad 106)), (1, .int x)]) (st' := []) rfl (by rw [← nI_1 k]) rfl ?_
      exact ih n (m2, k + 1, nI k, fo) (by omega) ⟨by show k + 1 + n = pp; omega, htr2, hgo.trans ((fRKGo_s _ _ _ _ _).trans (by rw [hfo]; exact if_pos c51))⟩
    · skip
      refine z_iload E dX5_riskiest_54 0 rfl ?_
      refine z_iload E dX5_riskiest_56 2 rfl ?_
      refine z_icmp_le (tgt := 68) E dX5_riskiest_58 (by decide) (fun c58 => ?_) (fun c58 => ?_)
      · skip
        refine z_iinc (v := nI k + 1) (lv' := [(5, .int (nI k + 1)), (6, .int fo), (4, .int most), (3, .int worst), (2, .ref (ad (3 * x.toNatClampNeg))), (0, .ref (ad 106)), (1, .int x)]) E dX5_riskiest_68 (q := 1) rfl rfl (by decide) rfl ?_
        refine z_goto (tgt := 14) E dX5_riskiest_71 (by decide) ?_
        refine z_lv [0, 2, 3, 4, 5, 6] (lv' := [(5, .int (nI k + 1)), (4, .int most), (3, .int worst), (2, .ref (ad (3 * x.toNatClampNeg))), (0, .ref (ad 106)), (1, .int x)]) rfl ?_
        refine z_eq (ws' := cw ad cI cR cS m2) (lv' := [(5, .int (nI (k + 1))), (4, .int most), (3, .int worst), (2, .ref (ad (3 * x.toNatClampNeg))), (0, .ref (ad 106)), (1, .int x)]) (st' := []) rfl (by rw [← nI_1 k]) rfl ?_
        exact ih n (m2, k + 1, worst, most) (by omega) ⟨by show k + 1 + n = pp; omega, htr2, hgo.trans ((fRKGo_s _ _ _ _ _).trans (by rw [hfo]; exact (if_neg c51).trans (if_pos c58)))⟩
      · skip
        refine z_iload E dX5_riskiest_61 1 rfl ?_
        refine z_istore_n (lv' := [(3, .int (nI k)), (6, .int fo), (5, .int (nI k)), (4, .int most), (2, .ref (ad (3 * x.toNatClampNeg))), (0, .ref (ad 106)), (1, .int x)]) E dX5_riskiest_63 rfl (by decide) rfl ?_
        refine z_iload E dX5_riskiest_64 1 rfl ?_
        refine z_istore (lv' := [(4, .int fo), (3, .int (nI k)), (6, .int fo), (5, .int (nI k)), (2, .ref (ad (3 * x.toNatClampNeg))), (0, .ref (ad 106)), (1, .int x)]) E dX5_riskiest_66 (by decide) rfl ?_
        refine z_iinc (v := nI k + 1) (lv' := [(5, .int (nI k + 1)), (4, .int fo), (3, .int (nI k)), (6, .int fo), (2, .ref (ad (3 * x.toNatClampNeg))), (0, .ref (ad 106)), (1, .int x)]) E dX5_riskiest_68 (q := 3) rfl rfl (by decide) rfl ?_
        refine z_goto (tgt := 14) E dX5_riskiest_71 (by decide) ?_
        refine z_lv [0, 1, 2, 4, 5, 6] (lv' := [(5, .int (nI k + 1)), (4, .int fo), (3, .int (nI k)), (2, .ref (ad (3 * x.toNatClampNeg))), (0, .ref (ad 106)), (1, .int x)]) rfl ?_
        refine z_eq (ws' := cw ad cI cR cS m2) (lv' := [(5, .int (nI (k + 1))), (4, .int fo), (3, .int (nI k)), (2, .ref (ad (3 * x.toNatClampNeg))), (0, .ref (ad 106)), (1, .int x)]) (st' := []) rfl (by rw [← nI_1 k]) rfl ?_
        exact ih n (m2, k + 1, nI k, fo) (by omega) ⟨by show k + 1 + n = pp; omega, htr2, hgo.trans ((fRKGo_s _ _ _ _ _).trans (by rw [hfo]; exact (if_neg c51).trans (if_neg c58)))⟩
theorem rv_step {mem : zM} {j t : Nat} (ht : t < 3) : rv mem j (11 + t) = mem (3 * j + 2) t := by
  unfold rv
  rw [if_neg (by omega), if_neg (by omega), if_pos (by omega), show 11 + t - 11 = t by omega]
theorem zlt3 {R : Nat → Int32} {b : Int32} (h : ¬ fBears R b = 0) : b.toNatClampNeg < 3 := by
  have := fBears_in h
  unfold vp_in at this
  omega
set_option maxHeartbeats 1000000 in
set_option maxRecDepth 100000 in
theorem k_highest (l : Launch) (D : va_G) (ad : Nat → Nat) (cI cR cS cL : ClassId) (mem : zM) {c0 s0 : Nat} (hl : l.stackTraces = false) (x b : Int32) (hA : ∀ i, i < 4 → ∀ t, t < 3 → ∃ a, a ≤ 10 ∧ mem (3 * i + 2) t = nI a) (hcs : ∀ E : String, sHigh mem x b = .inl E → 1 ≤ c0 ∧ 6 ≤ s0) : zXi l yX5_highest wsX5_highest ({ frames := 7, cells := c0, slots := s0, locals := 111 }) D (cK cI cR cS cL) [.ref (ad 106), .int x, .int b] (cw ad cI cR cS mem) (fun r u => sHigh mem x b = .inr r ∧ zTr mem u) (cw ad cI cR cS) (fun E u => sHigh mem x b = .inl E ∧ u = mem) (cw ad cI cR cS) c0 s0 := by
  refine zMiX.of (cc := cX5_highest) (maxL := 6) (ret := (some .int)) (by decide +kernel) rfl (lv0 := [(0, .ref (ad 106)), (1, .int x), (2, .int b)]) (Nat.le_of_ble_eq_true rfl) rfl ?_
  intro p e s m args below meth c E hZ hr hlocks htb hnm
  refine z_aload_n E dX5_highest_0 rfl 0 rfl ?_
  refine z_iload_n E dX5_highest_1 rfl 1 rfl ?_
  by_cases hL : x < 0 ∨ 4 ≤ x
  · skip
    exact z_callVqX E hZ (k_rigOf_bad l D ad cI cR cS cL mem hl x hL) gX5_highest_X5_rigOf (n := 1) rfl rfl rfl (by decide +kernel) rfl ⟨(Nat.le_of_ble_eq_true rfl), (Nat.le_of_ble_eq_true rfl)⟩ (C := RX5) rfl 106 cw_lad (As := [.int x]) (rest := []) rfl (Nat.le_of_ble_eq_true rfl) ⟨(hcs _ (if_pos hL)).1, (hcs _ (if_pos hL)).2⟩ dX5_highest_2 (fun E0 u q9 ce H locs ls hpx hP hD hS hl1 h1 h2 h3 => zx_out (py := (fun E u => sHigh mem x b = .inl E ∧ u = mem)) (outy := cw ad cI cR cS) E htb hlocks u (⟨by rw [hpx.1]; exact (if_pos hL), hpx.2⟩) hP hD hS h1 h2 h3 (hcs _ (if_pos hL)).1 (hcs _ (if_pos hL)).2) (fun r u hp => hp.elim)
  have hj4 : x.toNatClampNeg < 4 := zcl4 hL
  refine z_callVq E hZ (k_rigOf l D ad cI cR cS cL mem x hL) gX5_highest_X5_rigOf (n := 1) rfl rfl rfl (by decide +kernel) rfl ⟨(Nat.le_of_ble_eq_true rfl), (Nat.le_of_ble_eq_true rfl)⟩ (C := RX5) rfl 106 cw_lad (As := [.int x]) (rest := []) rfl (Nat.le_of_ble_eq_true rfl) ⟨(Nat.le_of_ble_eq_true rfl), (Nat.le_of_ble_eq_true rfl)⟩ dX5_highest_2 (fun r u hp => ?_)
  rw [hp.1, hp.2]
  refine z_eq (ws' := cw ad cI cR cS mem) (lv' := [(0, .ref (ad 106)), (1, .int x), (2, .int b)]) (st' := [.ref (ad (3 * x.toNatClampNeg))]) rfl rfl rfl ?_
  refine z_astore_n (lv' := [(3, .ref (ad (3 * x.toNatClampNeg))), (0, .ref (ad 106)), (1, .int x), (2, .int b)]) E dX5_highest_5 rfl (by decide) rfl ?_
  refine z_aload_n E dX5_highest_6 rfl 0 rfl ?_
  refine z_iload_n E dX5_highest_7 rfl 3 rfl ?_
  by_cases hPe : fBears (rv mem x.toNatClampNeg) b = 0
  · skip
    exact z_callSvX E hZ (k_person_bad l D ad cI cR cS cL mem hl (j := x.toNatClampNeg) (by omega) b hPe) gX5_highest_X5_demandPerson (n := 2) rfl rfl rfl (by decide +kernel) rfl ⟨(Nat.le_of_ble_eq_true rfl), (Nat.le_of_ble_eq_true rfl)⟩ (As := [.ref (ad (3 * x.toNatClampNeg)), .int b]) (rest := []) rfl (Nat.le_of_ble_eq_true rfl) ⟨(hcs _ ((if_neg hL).trans (if_pos hPe))).1, (hcs _ ((if_neg hL).trans (if_pos hPe))).2⟩ dX5_highest_8 (fun E0 u q9 ce H locs ls hpx hP hD hS hl1 h1 h2 h3 => zx_out (py := (fun E u => sHigh mem x b = .inl E ∧ u = mem)) (outy := cw ad cI cR cS) E htb hlocks u (⟨by rw [hpx.1]; exact ((if_neg hL).trans (if_pos hPe)), hpx.2⟩) hP hD hS h1 h2 h3 (hcs _ ((if_neg hL).trans (if_pos hPe))).1 (hcs _ ((if_neg hL).trans (if_pos hPe))).2) (fun u hp => hp.elim)
  refine z_callSv E hZ (k_personOk l D ad cI cR cS cL mem (j := x.toNatClampNeg) (by omega) b hPe) gX5_highest_X5_demandPerson (n := 2) rfl rfl rfl (by decide +kernel) rfl ⟨(Nat.le_of_ble_eq_true rfl), (Nat.le_of_ble_eq_true rfl)⟩ (As := [.ref (ad (3 * x.toNatClampNeg)), .int b]) (rest := []) rfl (Nat.le_of_ble_eq_true rfl) ⟨(Nat.le_of_ble_eq_true rfl), (Nat.le_of_ble_eq_true rfl)⟩ dX5_highest_8 (fun u hp => ?_)
  rw [hp]
  refine z_aload_n E dX5_highest_11 rfl 1 rfl ?_
  refine z_get E 106 cw_lad (C := RX5) (T := TX5) (N := 4) rfl (fun _ h => List.mem_cons_of_mem _ (List.mem_append_left _ (List.mem_append_left _ (List.mem_append_left _ (List.mem_append_right _ h))))) 3 (by decide) (List.mem_of_getElem? (i := 1) (by decide +kernel)) rfl (v := .ref (ad (3 * 28))) rfl dX5_highest_12 ?_
  refine z_aload_n E dX5_highest_15 rfl 0 rfl ?_
  refine z_callVv E hZ (k_rigCopy l D ad cI cR cS cL mem (by omega) (by omega) (by omega)) gX5_highest_X2_copyFrom (n := 1) rfl rfl rfl (by decide +kernel) rfl ⟨Nat.le_of_ble_eq_true rfl, Nat.le_of_ble_eq_true rfl⟩  (C := RX2) rfl (3 * 28) (cw_rig (by omega)) (As := [.ref (ad (3 * x.toNatClampNeg))]) (rest := []) rfl (Nat.le_of_ble_eq_true rfl) ⟨Nat.zero_le _, Nat.zero_le _⟩ dX5_highest_16 (fun u hp => ?_)
  rw [hp]
  refine z_gm (fun m1 hm1 => ?_)
  refine z_aload_n E dX5_highest_19 rfl 0 rfl ?_
  refine z_iload_n E dX5_highest_20 rfl 3 rfl ?_
  refine z_callVi E hZ (k_stepOf l D ad cI cR cS cL m1 (by omega) b) gX5_highest_X2_stepOf (n := 1) rfl rfl rfl (by decide +kernel) rfl ⟨Nat.le_of_ble_eq_true rfl, Nat.le_of_ble_eq_true rfl⟩  (C := RX2) rfl (3 * x.toNatClampNeg) (cw_rig (by omega)) (As := [.int b]) (rest := []) rfl (Nat.le_of_ble_eq_true rfl) ⟨Nat.zero_le _, Nat.zero_le _⟩ dX5_highest_21 (fun r u hp => ?_)
  rw [hp.1, hp.2]
  obtain ⟨a, ha, hcur⟩ := hA _ hj4 b.toNatClampNeg (zlt3 hPe)
  have hst0 : sStepOf m1 x.toNatClampNeg b = nI a := (if_neg (show ¬ fBears (rv m1 x.toNatClampNeg) b = 0 by rw [hm1, rv_copy_ne (by omega)]; exact hPe)).trans (by rw [hm1, sCopy_ne (by omega) (by omega) (by omega)]; exact hcur)
  rw [hst0]
  refine z_istore (lv' := [(4, .int (nI a)), (3, .ref (ad (3 * x.toNatClampNeg))), (0, .ref (ad 106)), (1, .int x), (2, .int b)]) E dX5_highest_24 (by decide) rfl ?_
  refine z_iload E dX5_highest_26 0 rfl ?_
  refine z_iconst (v := 1) E dX5_highest_28 (by decide) ?_
  refine z_iadd E dX5_highest_29 ?_
  refine z_istore (lv' := [(5, .int ((nI a) + 1)), (4, .int (nI a)), (3, .ref (ad (3 * x.toNatClampNeg))), (0, .ref (ad 106)), (1, .int x), (2, .int b)]) E dX5_highest_30 (by decide) rfl ?_
  refine z_eq (ws' := cw ad cI cR cS m1) (lv' := [(5, .int (nI (a + 1))), (4, .int (nI a)), (3, .ref (ad (3 * x.toNatClampNeg))), (0, .ref (ad 106)), (1, .int x), (2, .int b)]) (st' := []) rfl (by rw [nI_1 a]) rfl ?_
  refine z_loop (σ := zM × Nat) (fun n y => y.2 + n = 10 ∧ (∀ v, upd (rv y.1 28) (11 + b.toNatClampNeg) v = upd (rv mem x.toNatClampNeg) (11 + b.toNatClampNeg) v) ∧ zTr mem y.1 ∧ (¬ fBears (rv y.1 28) b = 0) ∧ fHi (rv mem x.toNatClampNeg) b.toNatClampNeg = fHiGo (rv mem x.toNatClampNeg) b.toNatClampNeg n y.2) (fun y => cw ad cI cR cS y.1) (fun y => [(5, .int (nI (y.2 + 1))), (4, .int (nI y.2)), (3, .ref (ad (3 * x.toNatClampNeg))), (0, .ref (ad 106)), (1, .int x), (2, .int b)]) 32 0 0 ?_ (10 - a) (m1, a) ⟨by show a + (10 - a) = 10; omega, fun v => by show upd (rv m1 28) _ v = _; rw [hm1, rv_copy], by show zTr mem m1; rw [hm1]; exact zTr.rfl'.copy _, by show ¬ fBears (rv m1 28) b = 0; rw [hm1, rv_copy]; exact hPe, by show fHi (rv mem x.toNatClampNeg) b.toNatClampNeg = fHiGo (rv mem x.toNatClampNeg) b.toNatClampNeg (10 - a) a; unfold fHi; rw [show (rv mem x.toNatClampNeg) (11 + b.toNatClampNeg) = nI a from (rv_step (zlt3 hPe)).trans hcur, nI_clamp (by omega)]⟩ rfl rfl rfl rfl rfl
  rintro n ⟨m, k⟩ ⟨hkn, hrm, htr, hbt, hgo⟩ ih
  dsimp only at hkn hrm htr hbt hgo ⊢
  refine z_iload E dX5_highest_32 0 rfl ?_
  refine z_bipush (v := 10) E dX5_highest_34 (by decide) ?_
  refine z_icmp_gt (tgt := 72) E dX5_highest_36 (by decide) (fun c36 => ?_) (fun c36 => ?_)
  · skip
    refine z_iload E dX5_highest_72 1 rfl ?_
    exact z_iretX E hr hlocks (m) rfl ⟨((if_neg hL).trans ((if_neg hPe).trans (congrArg Sum.inr (hgo.trans (by rw [show n = 0 by have := (nI_ltI (a := 10) (b := k + 1) (by omega) (by omega)).mp c36; omega]; rfl))))), htr⟩ (Nat.zero_le _) (Nat.zero_le _) dX5_highest_74
  · skip
    obtain ⟨n, rfl⟩ : ∃ n1, n = n1 + 1 := ⟨n - 1, by have := znlt (a := 10) (b := k + 1) (by omega) (by omega) c36; omega⟩
    refine z_aload_n E dX5_highest_39 rfl 3 rfl ?_
    refine z_get E 106 cw_lad (C := RX5) (T := TX5) (N := 4) rfl (fun _ h => List.mem_cons_of_mem _ (List.mem_append_left _ (List.mem_append_left _ (List.mem_append_left _ (List.mem_append_right _ h))))) 3 (by decide) (List.mem_of_getElem? (i := 1) (by decide +kernel)) rfl (v := .ref (ad (3 * 28))) rfl dX5_highest_40 ?_
    refine z_iload_n E dX5_highest_43 rfl 5 rfl ?_
    refine z_iload E dX5_highest_44 0 rfl ?_
    refine z_callVv E hZ (k_setStep l D ad cI cR cS cL m (j := 28) (by omega) b (nI (k + 1))) gX5_highest_X2_setStep (n := 2) rfl rfl rfl (by decide +kernel) rfl ⟨(Nat.le_of_ble_eq_true rfl), (Nat.le_of_ble_eq_true rfl)⟩ (C := RX2) rfl (3 * 28) (cw_rig (by omega)) (As := [.int b, .int (nI (k + 1))]) (rest := []) rfl (Nat.le_of_ble_eq_true rfl) ⟨(Nat.le_of_ble_eq_true rfl), (Nat.le_of_ble_eq_true rfl)⟩ dX5_highest_46 (fun u hp => ?_)
    rw [hp, show sSetStep m 28 b (nI (k + 1)) = mset m (3 * 28 + 2) b.toNatClampNeg (nI (k + 1)) from if_neg hbt]
    refine z_gm (fun m2 hm2 => ?_)
    refine z_aload_n E dX5_highest_49 rfl 3 rfl ?_
    refine z_get E 106 cw_lad (C := RX5) (T := TX5) (N := 4) rfl (fun _ h => List.mem_cons_of_mem _ (List.mem_append_left _ (List.mem_append_left _ (List.mem_append_left _ (List.mem_append_right _ h))))) 3 (by decide) (List.mem_of_getElem? (i := 1) (by decide +kernel)) rfl (v := .ref (ad (3 * 28))) rfl dX5_highest_50 ?_
    refine z_callVi E hZ (k_stands l D ad cI cR cS cL m2 (by omega)) gX5_highest_X2_stands (n := 0) rfl rfl rfl (by decide +kernel) rfl ⟨Nat.le_of_ble_eq_true rfl, Nat.le_of_ble_eq_true rfl⟩  (C := RX2) rfl (3 * 28) (cw_rig (by omega)) (As := []) (rest := []) rfl (Nat.le_of_ble_eq_true rfl) ⟨Nat.zero_le _, Nat.zero_le _⟩ dX5_highest_53 (fun r u hp => ?_)
    rw [hp.1, hp.2]
    have hv : rv m2 28 = upd (rv mem x.toNatClampNeg) (11 + b.toNatClampNeg) (nI (k + 1)) := by rw [hm2, rv_st (zlt3 hPe)]; exact hrm _
    rw [hv]
    refine z_if_ne (tgt := 62) E dX5_highest_56 (by decide) (fun c56 => ?_) (fun c56 => ?_)
    · skip
      refine z_iload E dX5_highest_62 0 rfl ?_
      refine z_istore (lv' := [(4, .int (nI (k + 1))), (5, .int (nI (k + 1))), (3, .ref (ad (3 * x.toNatClampNeg))), (0, .ref (ad 106)), (1, .int x), (2, .int b)]) E dX5_highest_64 (by decide) rfl ?_
      refine z_iinc (v := nI (k + 1) + 1) (lv' := [(5, .int (nI (k + 1) + 1)), (4, .int (nI (k + 1))), (3, .ref (ad (3 * x.toNatClampNeg))), (0, .ref (ad 106)), (1, .int x), (2, .int b)]) E dX5_highest_66 (q := 1) rfl rfl (by decide) rfl ?_
      refine z_goto (tgt := 32) E dX5_highest_69 (by decide) ?_
      refine z_eq (ws' := cw ad cI cR cS m2) (lv' := [(5, .int (nI (k + 1 + 1))), (4, .int (nI (k + 1))), (3, .ref (ad (3 * x.toNatClampNeg))), (0, .ref (ad 106)), (1, .int x), (2, .int b)]) (st' := []) rfl (by rw [← nI_1 (k + 1)]) rfl ?_
      exact ih n (m2, k + 1) (by omega) ⟨by show k + 1 + n = 10; omega, fun v => by show upd (rv m2 28) (11 + b.toNatClampNeg) v = _; rw [hv, upd_upd], by show zTr mem m2; rw [hm2]; exact htr.set (by omega) (by omega) _ _, by show ¬ fBears (rv m2 28) b = 0; rw [fBears_congr (show rv m2 28 7 = (rv mem x.toNatClampNeg) 7 by rw [hv, upd_ne _ _ (by omega)])]; exact hPe, hgo.trans ((fHiGo_s _ _ _ _).trans (if_neg c56))⟩
    · skip
      refine z_iload E dX5_highest_59 1 rfl ?_
      exact z_iretX E hr hlocks (m2) rfl ⟨((if_neg hL).trans ((if_neg hPe).trans (congrArg Sum.inr (hgo.trans ((fHiGo_s _ _ _ _).trans (if_pos c56)))))), (by rw [hm2]; exact htr.set (by omega) (by omega) _ _)⟩ (Nat.zero_le _) (Nat.zero_le _) dX5_highest_61
