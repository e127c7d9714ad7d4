/-! LadderClimb -/
abbrev zO : Type := (String ⊕ Int32) × zM
theorem zO_eq {a r : Int32} {m u : zM} (h : a = r) (h2 : m = u) : ((.inr a, m) : zO) = (.inr r, u) := by rw [h, h2]
theorem zcl4 {x : Int32} (h : ¬ (x < 0 ∨ 4 ≤ x)) : x.toNatClampNeg < 4 := by
  have h1 := (vp_in_iff (n := 4)).mp (zvin4 (fun a => h (Or.inl a)) (fun a => h (Or.inr a)))
  have := zvin4 (fun a => h (Or.inl a)) (fun a => h (Or.inr a))
  unfold vp_in at this
  omega
theorem fStands_01 (R : Nat → Int32) : fStands R = 0 ∨ fStands R = 1 := f01_if (Or.inl rfl) (Or.inr rfl)
theorem zlk01 {x : Int32} (h0 : ¬ x = 0) (h1 : ¬ x = 1) : Op.lookupswitch.offset [(0, 26), (1, 33)] 40 x.toInt = 40 := by
  have q0 := zne (n := 0) (by decide) h0
  have q1 := zne (n := 1) (by decide) h1
  simp [Op.lookupswitch.offset, q0, q1, Ne.symm q0, Ne.symm q1]
theorem sSave_ne {mem : zM} {q z i : Nat} (hi : i < 12 ∨ i = 87 ∨ 102 ≤ i) (hq : q < 6) : sSave mem q z i = mem i := by
  unfold sSave sSiteCopy sCopy4
  rw [mset_ne _ _ _ (by omega), mset_ne _ _ _ (by omega), mset_ne _ _ _ (by omega), mset_ne _ _ _ (by omega), sCopy_ne (by omega) (by omega) (by omega), sCopy_ne (by omega) (by omega) (by omega), sCopy_ne (by omega) (by omega) (by omega), sCopy_ne (by omega) (by omega) (by omega)]

set_option maxHeartbeats 1000000 in
set_option maxRecDepth 100000 in
theorem k_rigOf_bad (l : Launch) (D : va_G) (ad : Nat → Nat) (cI cR cS cL : ClassId) (mem : zM) (hl : l.stackTraces = false) (x : Int32) (hL : x < 0 ∨ 4 ≤ x) : zXq l yX5_rigOf wsX5_rigOf ({ frames := 6, cells := 1, slots := 6, locals := 90 }) D (cK cI cR cS cL) [.ref (ad 106), .int x] (cw ad cI cR cS mem) (fun (_ : Option Nat) (_ : zM) => False) (cw ad cI cR cS) (fun E u => E = "java/lang/IndexOutOfBoundsException" ∧ u = mem) (cw ad cI cR cS) 1 6 := by
  refine zMqX.of (cc := cX5_rigOf) (maxL := 2) (ret := (some (.object "LadderClimb$Rig"))) (by decide +kernel) rfl (lv0 := [(0, .ref (ad 106)), (1, .int x)]) (Nat.le_of_ble_eq_true rfl) rfl ?_
  intro p e s m args below meth c E hZ hr hlocks htb hnm
  refine z_iload_n E dX5_rigOf_0 rfl 1 rfl ?_
  refine z_if_lt (tgt := 9) E dX5_rigOf_1 (by decide) (fun c1 => ?_) (fun c1 => ?_)
  · skip
    exact zx_throwSW (py := (fun E u => E = "java/lang/IndexOutOfBoundsException" ∧ u = mem)) (outy := cw ad cI cR cS) E hZ hl hlocks htb (cls := "java/lang/IndexOutOfBoundsException") (text := "no such ladder") (names := ["java/lang/RuntimeException", "java/lang/Exception"]) (ik := 280) (is := 282) (ic := 284) (by decide +kernel) (by decide +kernel) (List.mem_of_getElem? (i := 1) (by decide +kernel)) (List.mem_of_getElem? (i := 2) (by decide +kernel)) hZ.2.2.2.2.2.2.2.2.2.1 (fun _ h => List.mem_cons_of_mem _ (List.mem_append_right _ h)) (by decide +kernel) (by decide +kernel) dX5_rigOf_9 dX5_rigOf_12 dX5_rigOf_13 dX5_rigOf_16 dX5_rigOf_19 (Nat.le_of_ble_eq_true rfl) (Nat.le_of_ble_eq_true rfl) (Nat.le_of_ble_eq_true rfl) (Nat.le_of_ble_eq_true rfl) (mem) ⟨rfl, rfl⟩ rfl (Nat.le_of_ble_eq_true rfl) (Nat.le_of_ble_eq_true rfl)
  · skip
    refine z_iload_n E dX5_rigOf_4 rfl 1 rfl ?_
    refine z_iconst (v := 4) E dX5_rigOf_5 (by decide) ?_
    refine z_icmp_lt_f (tgt := 20) E dX5_rigOf_6 (by decide) (Int32.not_lt.mpr (hL.resolve_left c1)) ?_
    exact zx_throwSW (py := (fun E u => E = "java/lang/IndexOutOfBoundsException" ∧ u = mem)) (outy := cw ad cI cR cS) E hZ hl hlocks htb (cls := "java/lang/IndexOutOfBoundsException") (text := "no such ladder") (names := ["java/lang/RuntimeException", "java/lang/Exception"]) (ik := 280) (is := 282) (ic := 284) (by decide +kernel) (by decide +kernel) (List.mem_of_getElem? (i := 1) (by decide +kernel)) (List.mem_of_getElem? (i := 2) (by decide +kernel)) hZ.2.2.2.2.2.2.2.2.2.1 (fun _ h => List.mem_cons_of_mem _ (List.mem_append_right _ h)) (by decide +kernel) (by decide +kernel) dX5_rigOf_9 dX5_rigOf_12 dX5_rigOf_13 dX5_rigOf_16 dX5_rigOf_19 (Nat.le_of_ble_eq_true rfl) (Nat.le_of_ble_eq_true rfl) (Nat.le_of_ble_eq_true rfl) (Nat.le_of_ble_eq_true rfl) (mem) ⟨rfl, rfl⟩ rfl (Nat.le_of_ble_eq_true rfl) (Nat.le_of_ble_eq_true rfl)
set_option maxHeartbeats 1000000 in
set_option maxRecDepth 100000 in
theorem k_rigOf (l : Launch) (D : va_G) (ad : Nat → Nat) (cI cR cS cL : ClassId) (mem : zM) (x : Int32) (hL : ¬ (x < 0 ∨ 4 ≤ x)) : zMq l yX5_rigOf wsX5_rigOf ({ frames := 6, cells := 0, slots := 0, locals := 90 }) D (cK cI cR cS cL) [.ref (ad 106), .int x] (cw ad cI cR cS mem) (fun r u => r = some (ad (3 * x.toNatClampNeg)) ∧ u = mem) (cw ad cI cR cS) 0 0 := by
  refine zMqM.of (cc := cX5_rigOf) (maxL := 2) (ret := (some (.object "LadderClimb$Rig"))) (by decide +kernel) rfl (lv0 := [(0, .ref (ad 106)), (1, .int x)]) (Nat.le_of_ble_eq_true rfl) rfl ?_
  intro p e s m args below meth c E hZ hr hlocks hnm
  refine z_iload_n E dX5_rigOf_0 rfl 1 rfl ?_
  refine z_if_lt_f (tgt := 9) E dX5_rigOf_1 (by decide) (fun a => hL (Or.inl a)) ?_
  refine z_iload_n E dX5_rigOf_4 rfl 1 rfl ?_
  refine z_iconst (v := 4) E dX5_rigOf_5 (by decide) ?_
  refine z_icmp_lt_t (tgt := 20) E dX5_rigOf_6 (by decide) (Int32.not_le.mp (fun a => hL (Or.inr a))) ?_
  refine z_aload_n E dX5_rigOf_20 rfl 0 rfl ?_
  refine z_get E 106 cw_lad (C := RX5) (T := TX5) (N := 4) rfl (fun _ h => List.mem_cons_of_mem _ (List.mem_append_left _ (List.mem_append_left _ (List.mem_append_right _ h)))) 0 (by decide) (List.mem_of_getElem? (i := 3) (by decide +kernel)) rfl (v := .ref (ad (87 + 0))) rfl dX5_rigOf_21 ?_
  refine z_get E (87 + 0) (cw_site (by omega)) (C := RX3) (T := TX3) (N := 3) rfl (fun _ h => List.mem_cons_of_mem _ (List.mem_append_left _ (List.mem_append_right _ h))) 0 (by decide) (List.mem_of_getElem? (i := 4) (by decide +kernel)) rfl (v := .ref (ad (94 + 0))) rfl dX5_rigOf_24 ?_
  refine z_iload_n E dX5_rigOf_27 rfl 1 rfl ?_
  refine z_aldq E (94 + 0) 1 (C := "LadderClimb$Rig") (cw_rigs (by omega)) rfl (zvin4 (fun a => hL (Or.inl a)) (fun a => hL (Or.inr a))) (v := .ref (ad (3 * x.toNatClampNeg))) (show va_rf (some (ad (3 * (4 * 0 + x.toNatClampNeg)))) = .ref (ad (3 * x.toNatClampNeg)) by rw [Nat.mul_zero, Nat.zero_add]; rfl) dX5_rigOf_28 ?_
  exact z_qretM E hr hlocks (mem) rfl ⟨rfl, rfl⟩ (Nat.le_of_ble_eq_true rfl) (Nat.le_of_ble_eq_true rfl) dX5_rigOf_29
set_option maxHeartbeats 1000000 in
set_option maxRecDepth 100000 in
theorem k_range_bad (l : Launch) (D : va_G) (ad : Nat → Nat) (cI cR cS cL : ClassId) (mem : zM) (hl : l.stackTraces = false) (v lo hi : Int32) (hR : v < lo ∨ hi < v) : zXv l yX5_demandRange wsX5_demandRange ({ frames := 6, cells := 1, slots := 6, locals := 90 }) D (cK cI cR cS cL) [.int v, .int lo, .int hi] (cw ad cI cR cS mem) (fun (_ : zM) => False) (cw ad cI cR cS) (fun E u => E = "java/lang/IllegalArgumentException" ∧ u = mem) (cw ad cI cR cS) 1 6 := by
  refine zMvX.of (cc := cX5_demandRange) (maxL := 3) (ret := none) (by decide +kernel) rfl (lv0 := [(0, .int v), (1, .int lo), (2, .int hi)]) (Nat.le_of_ble_eq_true rfl) rfl ?_
  intro p e s m args below meth c E hZ hr hlocks htb hnm
  refine z_iload_n E dX5_demandRange_0 rfl 0 rfl ?_
  refine z_iload_n E dX5_demandRange_1 rfl 1 rfl ?_
  refine z_icmp_lt (tgt := 10) E dX5_demandRange_2 (by decide) (fun c2 => ?_) (fun c2 => ?_)
  · skip
    exact zx_throwSW (py := (fun E u => E = "java/lang/IllegalArgumentException" ∧ u = mem)) (outy := cw ad cI cR cS) E hZ hl hlocks htb (cls := "java/lang/IllegalArgumentException") (text := "out of range") (names := ["java/lang/RuntimeException", "java/lang/Exception"]) (ik := 118) (is := 295) (ic := 122) (by decide +kernel) (by decide +kernel) (List.mem_of_getElem? (i := 1) (by decide +kernel)) (List.mem_of_getElem? (i := 2) (by decide +kernel)) hZ.2.2.2.2.2.2.2.2.2.2.2.1 (fun _ h => List.mem_cons_of_mem _ (List.mem_append_right _ h)) (by decide +kernel) (by decide +kernel) dX5_demandRange_10 dX5_demandRange_13 dX5_demandRange_14 dX5_demandRange_17 dX5_demandRange_20 (Nat.le_of_ble_eq_true rfl) (Nat.le_of_ble_eq_true rfl) (Nat.le_of_ble_eq_true rfl) (Nat.le_of_ble_eq_true rfl) (mem) ⟨rfl, rfl⟩ rfl (Nat.le_of_ble_eq_true rfl) (Nat.le_of_ble_eq_true rfl)
  · skip
    refine z_iload_n E dX5_demandRange_5 rfl 0 rfl ?_
    refine z_iload_n E dX5_demandRange_6 rfl 2 rfl ?_
    refine z_icmp_le_f (tgt := 21) E dX5_demandRange_7 (by decide) (Int32.not_le.mpr (hR.resolve_left c2)) ?_
    exact zx_throwSW (py := (fun E u => E = "java/lang/IllegalArgumentException" ∧ u = mem)) (outy := cw ad cI cR cS) E hZ hl hlocks htb (cls := "java/lang/IllegalArgumentException") (text := "out of range") (names := ["java/lang/RuntimeException", "java/lang/Exception"]) (ik := 118) (is := 295) (ic := 122) (by decide +kernel) (by decide +kernel) (List.mem_of_getElem? (i := 1) (by decide +kernel)) (List.mem_of_getElem? (i := 2) (by decide +kernel)) hZ.2.2.2.2.2.2.2.2.2.2.2.1 (fun _ h => List.mem_cons_of_mem _ (List.mem_append_right _ h)) (by decide +kernel) (by decide +kernel) dX5_demandRange_10 dX5_demandRange_13 dX5_demandRange_14 dX5_demandRange_17 dX5_demandRange_20 (Nat.le_of_ble_eq_true rfl) (Nat.le_of_ble_eq_true rfl) (Nat.le_of_ble_eq_true rfl) (Nat.le_of_ble_eq_true rfl) (mem) ⟨rfl, rfl⟩ rfl (Nat.le_of_ble_eq_true rfl) (Nat.le_of_ble_eq_true rfl)
set_option maxHeartbeats 1000000 in
set_option maxRecDepth 100000 in
theorem k_range (l : Launch) (D : va_G) (ad : Nat → Nat) (cI cR cS cL : ClassId) (mem : zM) (v lo hi : Int32) (hR : ¬ (v < lo ∨ hi < v)) : zMv l yX5_demandRange wsX5_demandRange ({ frames := 6, cells := 0, slots := 0, locals := 90 }) D (cK cI cR cS cL) [.int v, .int lo, .int hi] (cw ad cI cR cS mem) (fun u => u = mem) (cw ad cI cR cS) 0 0 := by
  refine zMvM.of (cc := cX5_demandRange) (maxL := 3) (ret := none) (by decide +kernel) rfl (lv0 := [(0, .int v), (1, .int lo), (2, .int hi)]) (Nat.le_of_ble_eq_true rfl) rfl ?_
  intro p e s m args below meth c E hZ hr hlocks hnm
  refine z_iload_n E dX5_demandRange_0 rfl 0 rfl ?_
  refine z_iload_n E dX5_demandRange_1 rfl 1 rfl ?_
  refine z_icmp_lt_f (tgt := 10) E dX5_demandRange_2 (by decide) (fun a => hR (Or.inl a)) ?_
  refine z_iload_n E dX5_demandRange_5 rfl 0 rfl ?_
  refine z_iload_n E dX5_demandRange_6 rfl 2 rfl ?_
  refine z_icmp_le_t (tgt := 21) E dX5_demandRange_7 (by decide) (Int32.not_lt.mp (fun a => hR (Or.inr a))) ?_
  exact z_vretM E hr hlocks (mem) rfl rfl (Nat.le_of_ble_eq_true rfl) (Nat.le_of_ble_eq_true rfl) dX5_demandRange_21
set_option maxHeartbeats 1000000 in
set_option maxRecDepth 100000 in
theorem k_person_bad (l : Launch) (D : va_G) (ad : Nat → Nat) (cI cR cS cL : ClassId) (mem : zM) (hl : l.stackTraces = false) {j : Nat} (hj : j < 29) (v : Int32) (hB : fBears (rv mem j) v = 0) : zXv l yX5_demandPerson wsX5_demandPerson ({ frames := 6, cells := 1, slots := 6, locals := 90 }) D (cK cI cR cS cL) [.ref (ad (3 * j)), .int v] (cw ad cI cR cS mem) (fun (_ : zM) => False) (cw ad cI cR cS) (fun E u => E = "java/lang/IndexOutOfBoundsException" ∧ u = mem) (cw ad cI cR cS) 1 6 := by
  refine zMvX.of (cc := cX5_demandPerson) (maxL := 2) (ret := none) (by decide +kernel) rfl (lv0 := [(0, .ref (ad (3 * j))), (1, .int v)]) (Nat.le_of_ble_eq_true rfl) rfl ?_
  intro p e s m args below meth c E hZ hr hlocks htb hnm
  refine z_aload_n E dX5_demandPerson_0 rfl 0 rfl ?_
  refine z_iload_n E dX5_demandPerson_1 rfl 1 rfl ?_
  refine z_callVi E hZ (k_bears l D ad cI cR cS cL mem hj v) gX5_demandPerson_X2_bears (n := 1) rfl rfl rfl (by decide +kernel) rfl ⟨Nat.le_of_ble_eq_true rfl, Nat.le_of_ble_eq_true rfl⟩  (C := RX2) rfl (3 * j) (cw_rig hj) (As := [.int v]) (rest := []) rfl (Nat.le_of_ble_eq_true rfl) ⟨Nat.le_of_ble_eq_true rfl, Nat.le_of_ble_eq_true rfl⟩ dX5_demandPerson_2 (fun r u hp => ?_)
  rw [hp.1, hp.2]
  refine z_if_ne_f (tgt := 19) E dX5_demandPerson_5 (by decide) hB ?_
  exact zx_throwSW (py := (fun E u => E = "java/lang/IndexOutOfBoundsException" ∧ u = mem)) (outy := cw ad cI cR cS) E hZ hl hlocks htb (cls := "java/lang/IndexOutOfBoundsException") (text := "no such person") (names := ["java/lang/RuntimeException", "java/lang/Exception"]) (ik := 280) (is := 293) (ic := 284) (by decide +kernel) (by decide +kernel) (List.mem_of_getElem? (i := 1) (by decide +kernel)) (List.mem_of_getElem? (i := 2) (by decide +kernel)) hZ.2.2.2.2.2.2.2.2.2.2.1 (fun _ h => List.mem_cons_of_mem _ (List.mem_append_right _ h)) (by decide +kernel) (by decide +kernel) dX5_demandPerson_8 dX5_demandPerson_11 dX5_demandPerson_12 dX5_demandPerson_15 dX5_demandPerson_18 (Nat.le_of_ble_eq_true rfl) (Nat.le_of_ble_eq_true rfl) (Nat.le_of_ble_eq_true rfl) (Nat.le_of_ble_eq_true rfl) (mem) ⟨rfl, rfl⟩ rfl (Nat.le_of_ble_eq_true rfl) (Nat.le_of_ble_eq_true rfl)
set_option maxHeartbeats 1000000 in
set_option maxRecDepth 100000 in
theorem k_personOk (l : Launch) (D : va_G) (ad : Nat → Nat) (cI cR cS cL : ClassId) (mem : zM) {j : Nat} (hj : j < 29) (v : Int32) (hB : ¬ fBears (rv mem j) v = 0) : zMv l yX5_demandPerson wsX5_demandPerson ({ frames := 6, cells := 0, slots := 0, locals := 90 }) D (cK cI cR cS cL) [.ref (ad (3 * j)), .int v] (cw ad cI cR cS mem) (fun u => u = mem) (cw ad cI cR cS) 0 0 := by
  refine zMvM.of (cc := cX5_demandPerson) (maxL := 2) (ret := none) (by decide +kernel) rfl (lv0 := [(0, .ref (ad (3 * j))), (1, .int v)]) (Nat.le_of_ble_eq_true rfl) rfl ?_
  intro p e s m args below meth c E hZ hr hlocks hnm
  refine z_aload_n E dX5_demandPerson_0 rfl 0 rfl ?_
  refine z_iload_n E dX5_demandPerson_1 rfl 1 rfl ?_
  refine z_callVi E hZ (k_bears l D ad cI cR cS cL mem hj v) gX5_demandPerson_X2_bears (n := 1) rfl rfl rfl (by decide +kernel) rfl ⟨Nat.le_of_ble_eq_true rfl, Nat.le_of_ble_eq_true rfl⟩  (C := RX2) rfl (3 * j) (cw_rig hj) (As := [.int v]) (rest := []) rfl (Nat.le_of_ble_eq_true rfl) ⟨Nat.le_of_ble_eq_true rfl, Nat.le_of_ble_eq_true rfl⟩ dX5_demandPerson_2 (fun r u hp => ?_)
  rw [hp.1, hp.2]
  refine z_if_ne_t (tgt := 19) E dX5_demandPerson_5 (by decide) hB ?_
  exact z_vretM E hr hlocks (mem) rfl rfl (Nat.le_of_ble_eq_true rfl) (Nat.le_of_ble_eq_true rfl) dX5_demandPerson_19
def sPut (mem : zM) (q z : Nat) (x b h g : Int32) : zO := if x < 0 ∨ 4 ≤ x then (.inl "java/lang/IndexOutOfBoundsException", mem) else if b < 10 ∨ 100 < b then (.inl "java/lang/IllegalArgumentException", mem) else if h < 50 ∨ 300 < h then (.inl "java/lang/IllegalArgumentException", mem) else if g < 1 ∨ 100 < g then (.inl "java/lang/IllegalArgumentException", mem) else (.inr (fFN (rv (mset (mset (mset (sSave mem q z) (3 * x.toNatClampNeg) 0 b) (3 * x.toNatClampNeg) 1 h) (3 * x.toNatClampNeg) 2 g) x.toNatClampNeg)), sFN (mset (mset (mset (sSave mem q z) (3 * x.toNatClampNeg) 0 b) (3 * x.toNatClampNeg) 1 h) (3 * x.toNatClampNeg) 2 g) 0 x.toNatClampNeg)
set_option maxHeartbeats 1000000 in
set_option maxRecDepth 100000 in
theorem k_put (l : Launch) (D : va_G) (ad : Nat → Nat) (cI cR cS cL : ClassId) (mem : zM) {c0 s0 : Nat} (hl : l.stackTraces = false) (x b h g : Int32) {q : Nat} (hq : q < 6) (hn : mem 101 1 = nI q) {z : Nat} (hz : z ≤ 6) (hs : mem 101 2 = nI z) (hcs : ∀ (E : String) (u : zM), sPut mem q z x b h g = (.inl E, u) → 1 ≤ c0 ∧ 6 ≤ s0) : zXi l yX5_put wsX5_put ({ frames := 7, cells := c0, slots := s0, locals := 112 }) D (cK cI cR cS cL) [.ref (ad 106), .int x, .int b, .int h, .int g] (cw ad cI cR cS mem) (fun r u => sPut mem q z x b h g = (.inr r, u)) (cw ad cI cR cS) (fun E u => sPut mem q z x b h g = (.inl E, u)) (cw ad cI cR cS) c0 s0 := by
  refine zMiX.of (cc := cX5_put) (maxL := 6) (ret := (some .int)) (by decide +kernel) rfl (lv0 := [(0, .ref (ad 106)), (1, .int x), (2, .int b), (3, .int h), (4, .int g)]) (Nat.le_of_ble_eq_true rfl) rfl ?_
  intro p e s m args below meth c E hZ hr hlocks htb hnm
  refine z_aload_n E dX5_put_0 rfl 0 rfl ?_
  refine z_iload_n E dX5_put_1 rfl 1 rfl ?_
  by_cases hL : x < 0 ∨ 4 ≤ x
  · skip
    exact z_callVqX E hZ (k_rigOf_bad l D ad cI cR cS cL mem hl x hL) gX5_put_X5_rigOf (n := 1) rfl rfl rfl (by decide +kernel) rfl ⟨(Nat.le_of_ble_eq_true rfl), (Nat.le_of_ble_eq_true rfl)⟩ (C := RX5) rfl 106 cw_lad (As := [.int x]) (rest := []) rfl (Nat.le_of_ble_eq_true rfl) ⟨(hcs _ _ (if_pos hL)).1, (hcs _ _ (if_pos hL)).2⟩ dX5_put_2 (fun E0 u q9 ce H locs ls hpx hP hD hS hl1 h1 h2 h3 => zx_out (py := (fun E u => sPut mem q z x b h g = (.inl E, u))) (outy := cw ad cI cR cS) E htb hlocks u (by rw [hpx.1, hpx.2]; exact (if_pos hL)) hP hD hS h1 h2 h3 (hcs _ _ (if_pos hL)).1 (hcs _ _ (if_pos hL)).2) (fun r u hp => hp.elim)
  have hj4 : x.toNatClampNeg < 4 := zcl4 hL
  refine z_callVq E hZ (k_rigOf l D ad cI cR cS cL mem x hL) gX5_put_X5_rigOf (n := 1) rfl rfl rfl (by decide +kernel) rfl ⟨(Nat.le_of_ble_eq_true rfl), (Nat.le_of_ble_eq_true rfl)⟩ (C := RX5) rfl 106 cw_lad (As := [.int x]) (rest := []) rfl (Nat.le_of_ble_eq_true rfl) ⟨(Nat.le_of_ble_eq_true rfl), (Nat.le_of_ble_eq_true rfl)⟩ dX5_put_2 (fun r u hp => ?_)
  rw [hp.1, hp.2]
  refine z_eq (ws' := cw ad cI cR cS mem) (lv' := [(0, .ref (ad 106)), (1, .int x), (2, .int b), (3, .int h), (4, .int g)]) (st' := [.ref (ad (3 * x.toNatClampNeg))]) rfl rfl rfl ?_
  refine z_astore (lv' := [(5, .ref (ad (3 * x.toNatClampNeg))), (0, .ref (ad 106)), (1, .int x), (2, .int b), (3, .int h), (4, .int g)]) E dX5_put_5 (by decide) rfl ?_
  refine z_iload_n E dX5_put_7 rfl 3 rfl ?_
  refine z_bipush (v := 10) E dX5_put_8 (by decide) ?_
  refine z_bipush (v := 100) E dX5_put_10 (by decide) ?_
  by_cases hR12 : b < 10 ∨ 100 < b
  · skip
    exact z_callSvX E hZ (k_range_bad l D ad cI cR cS cL mem hl b 10 100 hR12) gX5_put_X5_demandRange (n := 3) rfl rfl rfl (by decide +kernel) rfl ⟨(Nat.le_of_ble_eq_true rfl), (Nat.le_of_ble_eq_true rfl)⟩ (As := [.int b, .int 10, .int 100]) (rest := []) rfl (Nat.le_of_ble_eq_true rfl) ⟨(hcs _ _ ((if_neg hL).trans (if_pos hR12))).1, (hcs _ _ ((if_neg hL).trans (if_pos hR12))).2⟩ dX5_put_12 (fun E0 u q9 ce H locs ls hpx hP hD hS hl1 h1 h2 h3 => zx_out (py := (fun E u => sPut mem q z x b h g = (.inl E, u))) (outy := cw ad cI cR cS) E htb hlocks u (by rw [hpx.1, hpx.2]; exact ((if_neg hL).trans (if_pos hR12))) hP hD hS h1 h2 h3 (hcs _ _ ((if_neg hL).trans (if_pos hR12))).1 (hcs _ _ ((if_neg hL).trans (if_pos hR12))).2) (fun u hp => hp.elim)
  refine z_callSv E hZ (k_range l D ad cI cR cS cL mem b 10 100 hR12) gX5_put_X5_demandRange (n := 3) rfl rfl rfl (by decide +kernel) rfl ⟨(Nat.le_of_ble_eq_true rfl), (Nat.le_of_ble_eq_true rfl)⟩ (As := [.int b, .int 10, .int 100]) (rest := []) rfl (Nat.le_of_ble_eq_true rfl) ⟨(Nat.le_of_ble_eq_true rfl), (Nat.le_of_ble_eq_true rfl)⟩ dX5_put_12 (fun u hp => ?_)
  rw [hp]
  refine z_iload_n E dX5_put_15 rfl 4 rfl ?_
  refine z_bipush (v := 50) E dX5_put_16 (by decide) ?_
  refine z_sipush (v := 300) E dX5_put_18 (by decide) ?_
  by_cases hR21 : h < 50 ∨ 300 < h
  · skip
    exact z_callSvX E hZ (k_range_bad l D ad cI cR cS cL mem hl h 50 300 hR21) gX5_put_X5_demandRange (n := 3) rfl rfl rfl (by decide +kernel) rfl ⟨(Nat.le_of_ble_eq_true rfl), (Nat.le_of_ble_eq_true rfl)⟩ (As := [.int h, .int 50, .int 300]) (rest := []) rfl (Nat.le_of_ble_eq_true rfl) ⟨(hcs _ _ ((if_neg hL).trans ((if_neg hR12).trans (if_pos hR21)))).1, (hcs _ _ ((if_neg hL).trans ((if_neg hR12).trans (if_pos hR21)))).2⟩ dX5_put_21 (fun E0 u q9 ce H locs ls hpx hP hD hS hl1 h1 h2 h3 => zx_out (py := (fun E u => sPut mem q z x b h g = (.inl E, u))) (outy := cw ad cI cR cS) E htb hlocks u (by rw [hpx.1, hpx.2]; exact ((if_neg hL).trans ((if_neg hR12).trans (if_pos hR21)))) hP hD hS h1 h2 h3 (hcs _ _ ((if_neg hL).trans ((if_neg hR12).trans (if_pos hR21)))).1 (hcs _ _ ((if_neg hL).trans ((if_neg hR12).trans (if_pos hR21)))).2) (fun u hp => hp.elim)
  refine z_callSv E hZ (k_range l D ad cI cR cS cL mem h 50 300 hR21) gX5_put_X5_demandRange (n := 3) rfl rfl rfl (by decide +kernel) rfl ⟨(Nat.le_of_ble_eq_true rfl), (Nat.le_of_ble_eq_true rfl)⟩ (As := [.int h, .int 50, .int 300]) (rest := []) rfl (Nat.le_of_ble_eq_true rfl) ⟨(Nat.le_of_ble_eq_true rfl), (Nat.le_of_ble_eq_true rfl)⟩ dX5_put_21 (fun u hp => ?_)
  rw [hp]
  refine z_iload E dX5_put_24 5 rfl ?_
  refine z_iconst (v := 1) E dX5_put_26 (by decide) ?_
  refine z_bipush (v := 100) E dX5_put_27 (by decide) ?_
  by_cases hR29 : g < 1 ∨ 100 < g
  · skip
    exact z_callSvX E hZ (k_range_bad l D ad cI cR cS cL mem hl g 1 100 hR29) gX5_put_X5_demandRange (n := 3) rfl rfl rfl (by decide +kernel) rfl ⟨(Nat.le_of_ble_eq_true rfl), (Nat.le_of_ble_eq_true rfl)⟩ (As := [.int g, .int 1, .int 100]) (rest := []) rfl (Nat.le_of_ble_eq_true rfl) ⟨(hcs _ _ ((if_neg hL).trans ((if_neg hR12).trans ((if_neg hR21).trans (if_pos hR29))))).1, (hcs _ _ ((if_neg hL).trans ((if_neg hR12).trans ((if_neg hR21).trans (if_pos hR29))))).2⟩ dX5_put_29 (fun E0 u q9 ce H locs ls hpx hP hD hS hl1 h1 h2 h3 => zx_out (py := (fun E u => sPut mem q z x b h g = (.inl E, u))) (outy := cw ad cI cR cS) E htb hlocks u (by rw [hpx.1, hpx.2]; exact ((if_neg hL).trans ((if_neg hR12).trans ((if_neg hR21).trans (if_pos hR29))))) hP hD hS h1 h2 h3 (hcs _ _ ((if_neg hL).trans ((if_neg hR12).trans ((if_neg hR21).trans (if_pos hR29))))).1 (hcs _ _ ((if_neg hL).trans ((if_neg hR12).trans ((if_neg hR21).trans (if_pos hR29))))).2) (fun u hp => hp.elim)
  refine z_callSv E hZ (k_range l D ad cI cR cS cL mem g 1 100 hR29) gX5_put_X5_demandRange (n := 3) rfl rfl rfl (by decide +kernel) rfl ⟨(Nat.le_of_ble_eq_true rfl), (Nat.le_of_ble_eq_true rfl)⟩ (As := [.int g, .int 1, .int 100]) (rest := []) rfl (Nat.le_of_ble_eq_true rfl) ⟨(Nat.le_of_ble_eq_true rfl), (Nat.le_of_ble_eq_true rfl)⟩ dX5_put_29 (fun u hp => ?_)
  rw [hp]
  refine z_aload_n E dX5_put_32 rfl 1 rfl ?_
  refine z_get E 106 cw_lad (C := RX5) (T := TX5) (N := 4) rfl (fun _ h => List.mem_cons_of_mem _ (List.mem_append_left _ (List.mem_append_left _ (List.mem_append_left _ (List.mem_append_left _ (List.mem_append_left _ (List.mem_append_right _ h))))))) 1 (by decide) (List.mem_of_getElem? (i := 1) (by decide +kernel)) rfl (v := .ref (ad 101)) rfl dX5_put_33 ?_
  refine z_aload_n E dX5_put_36 rfl 1 rfl ?_
  refine z_get E 106 cw_lad (C := RX5) (T := TX5) (N := 4) rfl (fun _ h => List.mem_cons_of_mem _ (List.mem_append_left _ (List.mem_append_left _ (List.mem_append_left _ (List.mem_append_left _ (List.mem_append_left _ (List.mem_append_right _ h))))))) 0 (by decide) (List.mem_of_getElem? (i := 2) (by decide +kernel)) rfl (v := .ref (ad (87 + 0))) rfl dX5_put_37 ?_
  refine z_callVv E hZ (k_save l D ad cI cR cS cL mem hq hn hz hs) gX5_put_X0_save (n := 1) rfl rfl rfl (by decide +kernel) rfl ⟨Nat.le_of_ble_eq_true rfl, Nat.le_of_ble_eq_true rfl⟩  (C := RX0) rfl 101 cw_hist (As := [.ref (ad (87 + 0))]) (rest := []) rfl (Nat.le_of_ble_eq_true rfl) ⟨Nat.zero_le _, Nat.zero_le _⟩ dX5_put_40 (fun u hp => ?_)
  rw [hp]
  refine z_gm (fun m1 hm1 => ?_)
  refine z_aload E dX5_put_43 0 rfl ?_
  refine z_iload_n E dX5_put_45 rfl 3 rfl ?_
  refine z_put E (3 * x.toNatClampNeg) (cw_rig (by omega)) (C := RX2) (T := TX2) (N := 10) rfl (fun _ h => List.mem_cons_of_mem _ (List.mem_append_left _ (List.mem_append_left _ (List.mem_append_left _ (List.mem_append_left _ (List.mem_append_right _ h)))))) tyX2 tyX2_ok nmX2 0 (by decide) (List.mem_of_getElem? (i := 3) (by decide +kernel)) rfl rfl rfl rfl (Nat.le_of_ble_eq_true rfl) (ws' := cw ad cI cR cS (mset m1 (3 * x.toNatClampNeg) 0 b)) (cs_rig (by omega) 0 (by decide) rfl) dX5_put_46 ?_
  refine z_gm (fun m2 hm2 => ?_)
  refine z_aload E dX5_put_49 0 rfl ?_
  refine z_iload_n E dX5_put_51 rfl 4 rfl ?_
  refine z_put E (3 * x.toNatClampNeg) (cw_rig (by omega)) (C := RX2) (T := TX2) (N := 10) rfl (fun _ h => List.mem_cons_of_mem _ (List.mem_append_left _ (List.mem_append_left _ (List.mem_append_left _ (List.mem_append_left _ (List.mem_append_right _ h)))))) tyX2 tyX2_ok nmX2 1 (by decide) (List.mem_of_getElem? (i := 4) (by decide +kernel)) rfl rfl rfl rfl (Nat.le_of_ble_eq_true rfl) (ws' := cw ad cI cR cS (mset m2 (3 * x.toNatClampNeg) 1 h)) (cs_rig (by omega) 1 (by decide) rfl) dX5_put_52 ?_
  refine z_gm (fun m3 hm3 => ?_)
  refine z_aload E dX5_put_55 0 rfl ?_
  refine z_iload E dX5_put_57 5 rfl ?_
  refine z_put E (3 * x.toNatClampNeg) (cw_rig (by omega)) (C := RX2) (T := TX2) (N := 10) rfl (fun _ h => List.mem_cons_of_mem _ (List.mem_append_left _ (List.mem_append_left _ (List.mem_append_left _ (List.mem_append_left _ (List.mem_append_right _ h)))))) tyX2 tyX2_ok nmX2 2 (by decide) (List.mem_of_getElem? (i := 5) (by decide +kernel)) rfl rfl rfl rfl (Nat.le_of_ble_eq_true rfl) (ws' := cw ad cI cR cS (mset m3 (3 * x.toNatClampNeg) 2 g)) (cs_rig (by omega) 2 (by decide) rfl) dX5_put_59 ?_
  refine z_gm (fun m4 hm4 => ?_)
  refine z_aload_n E dX5_put_62 rfl 1 rfl ?_
  refine z_get E 106 cw_lad (C := RX5) (T := TX5) (N := 4) rfl (fun _ h => List.mem_cons_of_mem _ (List.mem_append_left _ (List.mem_append_left _ (List.mem_append_left _ (List.mem_append_left _ (List.mem_append_left _ (List.mem_append_right _ h))))))) 0 (by decide) (List.mem_of_getElem? (i := 2) (by decide +kernel)) rfl (v := .ref (ad (87 + 0))) rfl dX5_put_63 ?_
  refine z_aload E dX5_put_66 0 rfl ?_
  refine z_callVi E hZ (k_fallsNow l D ad cI cR cS cL m4 (by omega) (by omega)) gX5_put_X3_fallsNow (n := 1) rfl rfl rfl (by decide +kernel) rfl ⟨Nat.le_of_ble_eq_true rfl, Nat.le_of_ble_eq_true rfl⟩  (C := RX3) rfl (87 + 0) (cw_site (by omega)) (As := [.ref (ad (3 * x.toNatClampNeg))]) (rest := []) rfl (Nat.le_of_ble_eq_true rfl) ⟨Nat.zero_le _, Nat.zero_le _⟩ dX5_put_68 (fun r u hp => ?_)
  rw [hp.1, hp.2]
  refine z_gm (fun m5 hm5 => ?_)
  refine z_if_eq (tgt := 78) E dX5_put_71 (by decide) (fun c71 => ?_) (fun c71 => ?_)
  · skip
    refine z_iconst (v := 0) E dX5_put_78 (by decide) ?_
    exact z_iretX E hr hlocks (m5) rfl (by subst hm1; subst hm2; subst hm3; subst hm4; subst hm5; exact ((if_neg hL).trans ((if_neg hR12).trans ((if_neg hR21).trans ((if_neg hR29).trans (zO_eq c71 rfl)))))) (Nat.zero_le _) (Nat.zero_le _) dX5_put_79
  · skip
    refine z_iconst (v := 1) E dX5_put_74 (by decide) ?_
    refine z_goto (tgt := 79) E dX5_put_75 (by decide) ?_
    exact z_iretX E hr hlocks (m5) rfl (by subst hm1; subst hm2; subst hm3; subst hm4; subst hm5; exact ((if_neg hL).trans ((if_neg hR12).trans ((if_neg hR21).trans ((if_neg hR29).trans (zO_eq ((fFN_01 _).resolve_left c71) rfl)))))) (Nat.zero_le _) (Nat.zero_le _) dX5_put_79
def sKinds (mem : zM) (q z : Nat) (x b h : Int32) : zO := if x < 0 ∨ 4 ≤ x then (.inl "java/lang/IndexOutOfBoundsException", mem) else if b < 0 ∨ 3 < b then (.inl "java/lang/IllegalArgumentException", mem) else if h < 0 ∨ 3 < h then (.inl "java/lang/IllegalArgumentException", mem) else (.inr (fFN (rv (mset (mset (sSave mem q z) (3 * x.toNatClampNeg) 3 b) (3 * x.toNatClampNeg) 4 h) x.toNatClampNeg)), sFN (mset (mset (sSave mem q z) (3 * x.toNatClampNeg) 3 b) (3 * x.toNatClampNeg) 4 h) 0 x.toNatClampNeg)
set_option maxHeartbeats 1000000 in
set_option maxRecDepth 100000 in
theorem k_kinds (l : Launch) (D : va_G) (ad : Nat → Nat) (cI cR cS cL : ClassId) (mem : zM) {c0 s0 : Nat} (hl : l.stackTraces = false) (x b h : Int32) {q : Nat} (hq : q < 6) (hn : mem 101 1 = nI q) {z : Nat} (hz : z ≤ 6) (hs : mem 101 2 = nI z) (hcs : ∀ (E : String) (u : zM), sKinds mem q z x b h = (.inl E, u) → 1 ≤ c0 ∧ 6 ≤ s0) : zXi l yX5_kinds wsX5_kinds ({ frames := 7, cells := c0, slots := s0, locals := 112 }) D (cK cI cR cS cL) [.ref (ad 106), .int x, .int b, .int h] (cw ad cI cR cS mem) (fun r u => sKinds mem q z x b h = (.inr r, u)) (cw ad cI cR cS) (fun E u => sKinds mem q z x b h = (.inl E, u)) (cw ad cI cR cS) c0 s0 := by
  refine zMiX.of (cc := cX5_kinds) (maxL := 5) (ret := (some .int)) (by decide +kernel) rfl (lv0 := [(0, .ref (ad 106)), (1, .int x), (2, .int b), (3, .int h)]) (Nat.le_of_ble_eq_true rfl) rfl ?_
  intro p e s m args below meth c E hZ hr hlocks htb hnm
  refine z_aload_n E dX5_kinds_0 rfl 0 rfl ?_
  refine z_iload_n E dX5_kinds_1 rfl 1 rfl ?_
  by_cases hL : x < 0 ∨ 4 ≤ x
  · skip
    exact z_callVqX E hZ (k_rigOf_bad l D ad cI cR cS cL mem hl x hL) gX5_kinds_X5_rigOf (n := 1) rfl rfl rfl (by decide +kernel) rfl ⟨(Nat.le_of_ble_eq_true rfl), (Nat.le_of_ble_eq_true rfl)⟩ (C := RX5) rfl 106 cw_lad (As := [.int x]) (rest := []) rfl (Nat.le_of_ble_eq_true rfl) ⟨(hcs _ _ (if_pos hL)).1, (hcs _ _ (if_pos hL)).2⟩ dX5_kinds_2 (fun E0 u q9 ce H locs ls hpx hP hD hS hl1 h1 h2 h3 => zx_out (py := (fun E u => sKinds mem q z x b h = (.inl E, u))) (outy := cw ad cI cR cS) E htb hlocks u (by rw [hpx.1, hpx.2]; exact (if_pos hL)) hP hD hS h1 h2 h3 (hcs _ _ (if_pos hL)).1 (hcs _ _ (if_pos hL)).2) (fun r u hp => hp.elim)
  have hj4 : x.toNatClampNeg < 4 := zcl4 hL
  refine z_callVq E hZ (k_rigOf l D ad cI cR cS cL mem x hL) gX5_kinds_X5_rigOf (n := 1) rfl rfl rfl (by decide +kernel) rfl ⟨(Nat.le_of_ble_eq_true rfl), (Nat.le_of_ble_eq_true rfl)⟩ (C := RX5) rfl 106 cw_lad (As := [.int x]) (rest := []) rfl (Nat.le_of_ble_eq_true rfl) ⟨(Nat.le_of_ble_eq_true rfl), (Nat.le_of_ble_eq_true rfl)⟩ dX5_kinds_2 (fun r u hp => ?_)
  rw [hp.1, hp.2]
  refine z_eq (ws' := cw ad cI cR cS mem) (lv' := [(0, .ref (ad 106)), (1, .int x), (2, .int b), (3, .int h)]) (st' := [.ref (ad (3 * x.toNatClampNeg))]) rfl rfl rfl ?_
  refine z_astore (lv' := [(4, .ref (ad (3 * x.toNatClampNeg))), (0, .ref (ad 106)), (1, .int x), (2, .int b), (3, .int h)]) E dX5_kinds_5 (by decide) rfl ?_
  refine z_iload_n E dX5_kinds_7 rfl 3 rfl ?_
  refine z_iconst (v := 0) E dX5_kinds_8 (by decide) ?_
  refine z_iconst (v := 3) E dX5_kinds_9 (by decide) ?_
  by_cases hR10 : b < 0 ∨ 3 < b
  · skip
    exact z_callSvX E hZ (k_range_bad l D ad cI cR cS cL mem hl b 0 3 hR10) gX5_kinds_X5_demandRange (n := 3) rfl rfl rfl (by decide +kernel) rfl ⟨(Nat.le_of_ble_eq_true rfl), (Nat.le_of_ble_eq_true rfl)⟩ (As := [.int b, .int 0, .int 3]) (rest := []) rfl (Nat.le_of_ble_eq_true rfl) ⟨(hcs _ _ ((if_neg hL).trans (if_pos hR10))).1, (hcs _ _ ((if_neg hL).trans (if_pos hR10))).2⟩ dX5_kinds_10 (fun E0 u q9 ce H locs ls hpx hP hD hS hl1 h1 h2 h3 => zx_out (py := (fun E u => sKinds mem q z x b h = (.inl E, u))) (outy := cw ad cI cR cS) E htb hlocks u (by rw [hpx.1, hpx.2]; exact ((if_neg hL).trans (if_pos hR10))) hP hD hS h1 h2 h3 (hcs _ _ ((if_neg hL).trans (if_pos hR10))).1 (hcs _ _ ((if_neg hL).trans (if_pos hR10))).2) (fun u hp => hp.elim)
  refine z_callSv E hZ (k_range l D ad cI cR cS cL mem b 0 3 hR10) gX5_kinds_X5_demandRange (n := 3) rfl rfl rfl (by decide +kernel) rfl ⟨(Nat.le_of_ble_eq_true rfl), (Nat.le_of_ble_eq_true rfl)⟩ (As := [.int b, .int 0, .int 3]) (rest := []) rfl (Nat.le_of_ble_eq_true rfl) ⟨(Nat.le_of_ble_eq_true rfl), (Nat.le_of_ble_eq_true rfl)⟩ dX5_kinds_10 (fun u hp => ?_)
  rw [hp]
  refine z_iload_n E dX5_kinds_13 rfl 4 rfl ?_
  refine z_iconst (v := 0) E dX5_kinds_14 (by decide) ?_
  refine z_iconst (v := 3) E dX5_kinds_15 (by decide) ?_
  by_cases hR16 : h < 0 ∨ 3 < h
  · skip
    exact z_callSvX E hZ (k_range_bad l D ad cI cR cS cL mem hl h 0 3 hR16) gX5_kinds_X5_demandRange (n := 3) rfl rfl rfl (by decide +kernel) rfl ⟨(Nat.le_of_ble_eq_true rfl), (Nat.le_of_ble_eq_true rfl)⟩ (As := [.int h, .int 0, .int 3]) (rest := []) rfl (Nat.le_of_ble_eq_true rfl) ⟨(hcs _ _ ((if_neg hL).trans ((if_neg hR10).trans (if_pos hR16)))).1, (hcs _ _ ((if_neg hL).trans ((if_neg hR10).trans (if_pos hR16)))).2⟩ dX5_kinds_16 (fun E0 u q9 ce H locs ls hpx hP hD hS hl1 h1 h2 h3 => zx_out (py := (fun E u => sKinds mem q z x b h = (.inl E, u))) (outy := cw ad cI cR cS) E htb hlocks u (by rw [hpx.1, hpx.2]; exact ((if_neg hL).trans ((if_neg hR10).trans (if_pos hR16)))) hP hD hS h1 h2 h3 (hcs _ _ ((if_neg hL).trans ((if_neg hR10).trans (if_pos hR16)))).1 (hcs _ _ ((if_neg hL).trans ((if_neg hR10).trans (if_pos hR16)))).2) (fun u hp => hp.elim)
  refine z_callSv E hZ (k_range l D ad cI cR cS cL mem h 0 3 hR16) gX5_kinds_X5_demandRange (n := 3) rfl rfl rfl (by decide +kernel) rfl ⟨(Nat.le_of_ble_eq_true rfl), (Nat.le_of_ble_eq_true rfl)⟩ (As := [.int h, .int 0, .int 3]) (rest := []) rfl (Nat.le_of_ble_eq_true rfl) ⟨(Nat.le_of_ble_eq_true rfl), (Nat.le_of_ble_eq_true rfl)⟩ dX5_kinds_16 (fun u hp => ?_)
  rw [hp]
  refine z_aload_n E dX5_kinds_19 rfl 1 rfl ?_
  refine z_get E 106 cw_lad (C := RX5) (T := TX5) (N := 4) rfl (fun _ h => List.mem_cons_of_mem _ (List.mem_append_left _ (List.mem_append_left _ (List.mem_append_left _ (List.mem_append_left _ (List.mem_append_left _ (List.mem_append_right _ h))))))) 1 (by decide) (List.mem_of_getElem? (i := 1) (by decide +kernel)) rfl (v := .ref (ad 101)) rfl dX5_kinds_20 ?_
  refine z_aload_n E dX5_kinds_23 rfl 1 rfl ?_
  refine z_get E 106 cw_lad (C := RX5) (T := TX5) (N := 4) rfl (fun _ h => List.mem_cons_of_mem _ (List.mem_append_left _ (List.mem_append_left _ (List.mem_append_left _ (List.mem_append_left _ (List.mem_append_left _ (List.mem_append_right _ h))))))) 0 (by decide) (List.mem_of_getElem? (i := 2) (by decide +kernel)) rfl (v := .ref (ad (87 + 0))) rfl dX5_kinds_24 ?_
  refine z_callVv E hZ (k_save l D ad cI cR cS cL mem hq hn hz hs) gX5_kinds_X0_save (n := 1) rfl rfl rfl (by decide +kernel) rfl ⟨Nat.le_of_ble_eq_true rfl, Nat.le_of_ble_eq_true rfl⟩  (C := RX0) rfl 101 cw_hist (As := [.ref (ad (87 + 0))]) (rest := []) rfl (Nat.le_of_ble_eq_true rfl) ⟨Nat.zero_le _, Nat.zero_le _⟩ dX5_kinds_27 (fun u hp => ?_)
  rw [hp]
  refine z_gm (fun m1 hm1 => ?_)
  refine z_aload E dX5_kinds_30 0 rfl ?_
  refine z_iload_n E dX5_kinds_32 rfl 3 rfl ?_
  refine z_put E (3 * x.toNatClampNeg) (cw_rig (by omega)) (C := RX2) (T := TX2) (N := 10) rfl (fun _ h => List.mem_cons_of_mem _ (List.mem_append_left _ (List.mem_append_left _ (List.mem_append_left _ (List.mem_append_left _ (List.mem_append_right _ h)))))) tyX2 tyX2_ok nmX2 3 (by decide) (List.mem_of_getElem? (i := 3) (by decide +kernel)) rfl rfl rfl rfl (Nat.le_of_ble_eq_true rfl) (ws' := cw ad cI cR cS (mset m1 (3 * x.toNatClampNeg) 3 b)) (cs_rig (by omega) 3 (by decide) rfl) dX5_kinds_33 ?_
  refine z_gm (fun m2 hm2 => ?_)
  refine z_aload E dX5_kinds_36 0 rfl ?_
  refine z_iload_n E dX5_kinds_38 rfl 4 rfl ?_
  refine z_put E (3 * x.toNatClampNeg) (cw_rig (by omega)) (C := RX2) (T := TX2) (N := 10) rfl (fun _ h => List.mem_cons_of_mem _ (List.mem_append_left _ (List.mem_append_left _ (List.mem_append_left _ (List.mem_append_left _ (List.mem_append_right _ h)))))) tyX2 tyX2_ok nmX2 4 (by decide) (List.mem_of_getElem? (i := 4) (by decide +kernel)) rfl rfl rfl rfl (Nat.le_of_ble_eq_true rfl) (ws' := cw ad cI cR cS (mset m2 (3 * x.toNatClampNeg) 4 h)) (cs_rig (by omega) 4 (by decide) rfl) dX5_kinds_39 ?_
  refine z_gm (fun m3 hm3 => ?_)
  refine z_aload_n E dX5_kinds_42 rfl 1 rfl ?_
  refine z_get E 106 cw_lad (C := RX5) (T := TX5) (N := 4) rfl (fun _ h => List.mem_cons_of_mem _ (List.mem_append_left _ (List.mem_append_left _ (List.mem_append_left _ (List.mem_append_left _ (List.mem_append_left _ (List.mem_append_right _ h))))))) 0 (by decide) (List.mem_of_getElem? (i := 2) (by decide +kernel)) rfl (v := .ref (ad (87 + 0))) rfl dX5_kinds_43 ?_
  refine z_aload E dX5_kinds_46 0 rfl ?_
  refine z_callVi E hZ (k_fallsNow l D ad cI cR cS cL m3 (by omega) (by omega)) gX5_kinds_X3_fallsNow (n := 1) rfl rfl rfl (by decide +kernel) rfl ⟨Nat.le_of_ble_eq_true rfl, Nat.le_of_ble_eq_true rfl⟩  (C := RX3) rfl (87 + 0) (cw_site (by omega)) (As := [.ref (ad (3 * x.toNatClampNeg))]) (rest := []) rfl (Nat.le_of_ble_eq_true rfl) ⟨Nat.zero_le _, Nat.zero_le _⟩ dX5_kinds_48 (fun r u hp => ?_)
  rw [hp.1, hp.2]
  refine z_gm (fun m4 hm4 => ?_)
  refine z_if_eq (tgt := 58) E dX5_kinds_51 (by decide) (fun c51 => ?_) (fun c51 => ?_)
  · skip
    refine z_iconst (v := 0) E dX5_kinds_58 (by decide) ?_
    exact z_iretX E hr hlocks (m4) rfl (by subst hm1; subst hm2; subst hm3; subst hm4; exact ((if_neg hL).trans ((if_neg hR10).trans ((if_neg hR16).trans (zO_eq c51 rfl))))) (Nat.zero_le _) (Nat.zero_le _) dX5_kinds_59
  · skip
    refine z_iconst (v := 1) E dX5_kinds_54 (by decide) ?_
    refine z_goto (tgt := 59) E dX5_kinds_55 (by decide) ?_
    exact z_iretX E hr hlocks (m4) rfl (by subst hm1; subst hm2; subst hm3; subst hm4; exact ((if_neg hL).trans ((if_neg hR10).trans ((if_neg hR16).trans (zO_eq ((fFN_01 _).resolve_left c51) rfl))))) (Nat.zero_le _) (Nat.zero_le _) dX5_kinds_59
def sRope (mem : zM) (q z : Nat) (x b : Int32) : zO := if x < 0 ∨ 4 ≤ x then (.inl "java/lang/IndexOutOfBoundsException", mem) else if b < 0 ∨ 200 < b then (.inl "java/lang/IllegalArgumentException", mem) else (.inr (fFN (rv (mset (sSave mem q z) (3 * x.toNatClampNeg) 5 b) x.toNatClampNeg)), sFN (mset (sSave mem q z) (3 * x.toNatClampNeg) 5 b) 0 x.toNatClampNeg)
set_option maxHeartbeats 1000000 in
set_option maxRecDepth 100000 in
theorem k_rope (l : Launch) (D : va_G) (ad : Nat → Nat) (cI cR cS cL : ClassId) (mem : zM) {c0 s0 : Nat} (hl : l.stackTraces = false) (x b : Int32) {q : Nat} (hq : q < 6) (hn : mem 101 1 = nI q) {z : Nat} (hz : z ≤ 6) (hs : mem 101 2 = nI z) (hcs : ∀ (E : String) (u : zM), sRope mem q z x b = (.inl E, u) → 1 ≤ c0 ∧ 6 ≤ s0) : zXi l yX5_rope wsX5_rope ({ frames := 7, cells := c0, slots := s0, locals := 112 }) D (cK cI cR cS cL) [.ref (ad 106), .int x, .int b] (cw ad cI cR cS mem) (fun r u => sRope mem q z x b = (.inr r, u)) (cw ad cI cR cS) (fun E u => sRope mem q z x b = (.inl E, u)) (cw ad cI cR cS) c0 s0 := by
  refine zMiX.of (cc := cX5_rope) (maxL := 4) (ret := (some .int)) (by decide +kernel) rfl (lv0 := [(0, .ref (ad 106)), (1, .int x), (2, .int b)]) (Nat.le_of_ble_eq_true rfl) rfl ?_
  intro p e s m args below meth c E hZ hr hlocks htb hnm
  refine z_aload_n E dX5_rope_0 rfl 0 rfl ?_
  refine z_iload_n E dX5_rope_1 rfl 1 rfl ?_
  by_cases hL : x < 0 ∨ 4 ≤ x
  · skip
    exact z_callVqX E hZ (k_rigOf_bad l D ad cI cR cS cL mem hl x hL) gX5_rope_X5_rigOf (n := 1) rfl rfl rfl (by decide +kernel) rfl ⟨(Nat.le_of_ble_eq_true rfl), (Nat.le_of_ble_eq_true rfl)⟩ (C := RX5) rfl 106 cw_lad (As := [.int x]) (rest := []) rfl (Nat.le_of_ble_eq_true rfl) ⟨(hcs _ _ (if_pos hL)).1, (hcs _ _ (if_pos hL)).2⟩ dX5_rope_2 (fun E0 u q9 ce H locs ls hpx hP hD hS hl1 h1 h2 h3 => zx_out (py := (fun E u => sRope mem q z x b = (.inl E, u))) (outy := cw ad cI cR cS) E htb hlocks u (by rw [hpx.1, hpx.2]; exact (if_pos hL)) hP hD hS h1 h2 h3 (hcs _ _ (if_pos hL)).1 (hcs _ _ (if_pos hL)).2) (fun r u hp => hp.elim)
  have hj4 : x.toNatClampNeg < 4 := zcl4 hL
  refine z_callVq E hZ (k_rigOf l D ad cI cR cS cL mem x hL) gX5_rope_X5_rigOf (n := 1) rfl rfl rfl (by decide +kernel) rfl ⟨(Nat.le_of_ble_eq_true rfl), (Nat.le_of_ble_eq_true rfl)⟩ (C := RX5) rfl 106 cw_lad (As := [.int x]) (rest := []) rfl (Nat.le_of_ble_eq_true rfl) ⟨(Nat.le_of_ble_eq_true rfl), (Nat.le_of_ble_eq_true rfl)⟩ dX5_rope_2 (fun r u hp => ?_)
  rw [hp.1, hp.2]
  refine z_eq (ws' := cw ad cI cR cS mem) (lv' := [(0, .ref (ad 106)), (1, .int x), (2, .int b)]) (st' := [.ref (ad (3 * x.toNatClampNeg))]) rfl rfl rfl ?_
  refine z_astore_n (lv' := [(3, .ref (ad (3 * x.toNatClampNeg))), (0, .ref (ad 106)), (1, .int x), (2, .int b)]) E dX5_rope_5 rfl (by decide) rfl ?_
  refine z_iload_n E dX5_rope_6 rfl 3 rfl ?_
  refine z_iconst (v := 0) E dX5_rope_7 (by decide) ?_
  refine z_sipush (v := 200) E dX5_rope_8 (by decide) ?_
  by_cases hR11 : b < 0 ∨ 200 < b
  · skip
    exact z_callSvX E hZ (k_range_bad l D ad cI cR cS cL mem hl b 0 200 hR11) gX5_rope_X5_demandRange (n := 3) rfl rfl rfl (by decide +kernel) rfl ⟨(Nat.le_of_ble_eq_true rfl), (Nat.le_of_ble_eq_true rfl)⟩ (As := [.int b, .int 0, .int 200]) (rest := []) rfl (Nat.le_of_ble_eq_true rfl) ⟨(hcs _ _ ((if_neg hL).trans (if_pos hR11))).1, (hcs _ _ ((if_neg hL).trans (if_pos hR11))).2⟩ dX5_rope_11 (fun E0 u q9 ce H locs ls hpx hP hD hS hl1 h1 h2 h3 => zx_out (py := (fun E u => sRope mem q z x b = (.inl E, u))) (outy := cw ad cI cR cS) E htb hlocks u (by rw [hpx.1, hpx.2]; exact ((if_neg hL).trans (if_pos hR11))) hP hD hS h1 h2 h3 (hcs _ _ ((if_neg hL).trans (if_pos hR11))).1 (hcs _ _ ((if_neg hL).trans (if_pos hR11))).2) (fun u hp => hp.elim)
  refine z_callSv E hZ (k_range l D ad cI cR cS cL mem b 0 200 hR11) gX5_rope_X5_demandRange (n := 3) rfl rfl rfl (by decide +kernel) rfl ⟨(Nat.le_of_ble_eq_true rfl), (Nat.le_of_ble_eq_true rfl)⟩ (As := [.int b, .int 0, .int 200]) (rest := []) rfl (Nat.le_of_ble_eq_true rfl) ⟨(Nat.le_of_ble_eq_true rfl), (Nat.le_of_ble_eq_true rfl)⟩ dX5_rope_11 (fun u hp => ?_)
  rw [hp]
  refine z_aload_n E dX5_rope_14 rfl 1 rfl ?_
  refine z_get E 106 cw_lad (C := RX5) (T := TX5) (N := 4) rfl (fun _ h => List.mem_cons_of_mem _ (List.mem_append_left _ (List.mem_append_left _ (List.mem_append_left _ (List.mem_append_left _ (List.mem_append_left _ (List.mem_append_right _ h))))))) 1 (by decide) (List.mem_of_getElem? (i := 1) (by decide +kernel)) rfl (v := .ref (ad 101)) rfl dX5_rope_15 ?_
  refine z_aload_n E dX5_rope_18 rfl 1 rfl ?_
  refine z_get E 106 cw_lad (C := RX5) (T := TX5) (N := 4) rfl (fun _ h => List.mem_cons_of_mem _ (List.mem_append_left _ (List.mem_append_left _ (List.mem_append_left _ (List.mem_append_left _ (List.mem_append_left _ (List.mem_append_right _ h))))))) 0 (by decide) (List.mem_of_getElem? (i := 2) (by decide +kernel)) rfl (v := .ref (ad (87 + 0))) rfl dX5_rope_19 ?_
  refine z_callVv E hZ (k_save l D ad cI cR cS cL mem hq hn hz hs) gX5_rope_X0_save (n := 1) rfl rfl rfl (by decide +kernel) rfl ⟨Nat.le_of_ble_eq_true rfl, Nat.le_of_ble_eq_true rfl⟩  (C := RX0) rfl 101 cw_hist (As := [.ref (ad (87 + 0))]) (rest := []) rfl (Nat.le_of_ble_eq_true rfl) ⟨Nat.zero_le _, Nat.zero_le _⟩ dX5_rope_22 (fun u hp => ?_)
  rw [hp]
  refine z_gm (fun m1 hm1 => ?_)
  refine z_aload_n E dX5_rope_25 rfl 0 rfl ?_
  refine z_iload_n E dX5_rope_26 rfl 3 rfl ?_
  refine z_put E (3 * x.toNatClampNeg) (cw_rig (by omega)) (C := RX2) (T := TX2) (N := 10) rfl (fun _ h => List.mem_cons_of_mem _ (List.mem_append_left _ (List.mem_append_left _ (List.mem_append_left _ (List.mem_append_left _ (List.mem_append_right _ h)))))) tyX2 tyX2_ok nmX2 5 (by decide) (List.mem_of_getElem? (i := 3) (by decide +kernel)) rfl rfl rfl rfl (Nat.le_of_ble_eq_true rfl) (ws' := cw ad cI cR cS (mset m1 (3 * x.toNatClampNeg) 5 b)) (cs_rig (by omega) 5 (by decide) rfl) dX5_rope_27 ?_
  refine z_gm (fun m2 hm2 => ?_)
  refine z_aload_n E dX5_rope_30 rfl 1 rfl ?_
  refine z_get E 106 cw_lad (C := RX5) (T := TX5) (N := 4) rfl (fun _ h => List.mem_cons_of_mem _ (List.mem_append_left _ (List.mem_append_left _ (List.mem_append_left _ (List.mem_append_left _ (List.mem_append_left _ (List.mem_append_right _ h))))))) 0 (by decide) (List.mem_of_getElem? (i := 2) (by decide +kernel)) rfl (v := .ref (ad (87 + 0))) rfl dX5_rope_31 ?_
  refine z_aload_n E dX5_rope_34 rfl 0 rfl ?_
  refine z_callVi E hZ (k_fallsNow l D ad cI cR cS cL m2 (by omega) (by omega)) gX5_rope_X3_fallsNow (n := 1) rfl rfl rfl (by decide +kernel) rfl ⟨Nat.le_of_ble_eq_true rfl, Nat.le_of_ble_eq_true rfl⟩  (C := RX3) rfl (87 + 0) (cw_site (by omega)) (As := [.ref (ad (3 * x.toNatClampNeg))]) (rest := []) rfl (Nat.le_of_ble_eq_true rfl) ⟨Nat.zero_le _, Nat.zero_le _⟩ dX5_rope_35 (fun r u hp => ?_)
  rw [hp.1, hp.2]
  refine z_gm (fun m3 hm3 => ?_)
  refine z_if_eq (tgt := 45) E dX5_rope_38 (by decide) (fun c38 => ?_) (fun c38 => ?_)
  · skip
    refine z_iconst (v := 0) E dX5_rope_45 (by decide) ?_
    exact z_iretX E hr hlocks (m3) rfl (by subst hm1; subst hm2; subst hm3; exact ((if_neg hL).trans ((if_neg hR11).trans (zO_eq c38 rfl)))) (Nat.zero_le _) (Nat.zero_le _) dX5_rope_46
  · skip
    refine z_iconst (v := 1) E dX5_rope_41 (by decide) ?_
    refine z_goto (tgt := 46) E dX5_rope_42 (by decide) ?_
    exact z_iretX E hr hlocks (m3) rfl (by subst hm1; subst hm2; subst hm3; exact ((if_neg hL).trans ((if_neg hR11).trans (zO_eq ((fFN_01 _).resolve_left c38) rfl)))) (Nat.zero_le _) (Nat.zero_le _) dX5_rope_46
def sOn (mem : zM) (q z : Nat) (x b : Int32) : zO := if x < 0 ∨ 4 ≤ x then (.inl "java/lang/IndexOutOfBoundsException", mem) else if b < 20 ∨ 150 < b then (.inl "java/lang/IllegalArgumentException", mem) else if fFull (rv mem x.toNatClampNeg) = 0 then (.inr (sFN (sAdd (sSave mem q z) x.toNatClampNeg b) 0 x.toNatClampNeg (3 * x.toNatClampNeg) 7), sFN (sAdd (sSave mem q z) x.toNatClampNeg b) 0 x.toNatClampNeg) else (.inl "java/lang/IllegalStateException", mem)
set_option maxHeartbeats 1000000 in
set_option maxRecDepth 100000 in
theorem k_on (l : Launch) (D : va_G) (ad : Nat → Nat) (cI cR cS cL : ClassId) (mem : zM) {c0 s0 : Nat} (hl : l.stackTraces = false) (x b : Int32) {q : Nat} (hq : q < 6) (hn : mem 101 1 = nI q) {z : Nat} (hz : z ≤ 6) (hs : mem 101 2 = nI z) (hcs : ∀ (E : String) (u : zM), sOn mem q z x b = (.inl E, u) → 1 ≤ c0 ∧ 6 ≤ s0) : zXi l yX5_on wsX5_on ({ frames := 7, cells := c0, slots := s0, locals := 112 }) D (cK cI cR cS cL) [.ref (ad 106), .int x, .int b] (cw ad cI cR cS mem) (fun r u => sOn mem q z x b = (.inr r, u)) (cw ad cI cR cS) (fun E u => sOn mem q z x b = (.inl E, u)) (cw ad cI cR cS) c0 s0 := by
  refine zMiX.of (cc := cX5_on) (maxL := 4) (ret := (some .int)) (by decide +kernel) rfl (lv0 := [(0, .ref (ad 106)), (1, .int x), (2, .int b)]) (Nat.le_of_ble_eq_true rfl) rfl ?_
  intro p e s m args below meth c E hZ hr hlocks htb hnm
  refine z_aload_n E dX5_on_0 rfl 0 rfl ?_
  refine z_iload_n E dX5_on_1 rfl 1 rfl ?_
  by_cases hL : x < 0 ∨ 4 ≤ x
  · skip
    exact z_callVqX E hZ (k_rigOf_bad l D ad cI cR cS cL mem hl x hL) gX5_on_X5_rigOf (n := 1) rfl rfl rfl (by decide +kernel) rfl ⟨(Nat.le_of_ble_eq_true rfl), (Nat.le_of_ble_eq_true rfl)⟩ (C := RX5) rfl 106 cw_lad (As := [.int x]) (rest := []) rfl (Nat.le_of_ble_eq_true rfl) ⟨(hcs _ _ (if_pos hL)).1, (hcs _ _ (if_pos hL)).2⟩ dX5_on_2 (fun E0 u q9 ce H locs ls hpx hP hD hS hl1 h1 h2 h3 => zx_out (py := (fun E u => sOn mem q z x b = (.inl E, u))) (outy := cw ad cI cR cS) E htb hlocks u (by rw [hpx.1, hpx.2]; exact (if_pos hL)) hP hD hS h1 h2 h3 (hcs _ _ (if_pos hL)).1 (hcs _ _ (if_pos hL)).2) (fun r u hp => hp.elim)
  have hj4 : x.toNatClampNeg < 4 := zcl4 hL
  refine z_callVq E hZ (k_rigOf l D ad cI cR cS cL mem x hL) gX5_on_X5_rigOf (n := 1) rfl rfl rfl (by decide +kernel) rfl ⟨(Nat.le_of_ble_eq_true rfl), (Nat.le_of_ble_eq_true rfl)⟩ (C := RX5) rfl 106 cw_lad (As := [.int x]) (rest := []) rfl (Nat.le_of_ble_eq_true rfl) ⟨(Nat.le_of_ble_eq_true rfl), (Nat.le_of_ble_eq_true rfl)⟩ dX5_on_2 (fun r u hp => ?_)
  rw [hp.1, hp.2]
  refine z_eq (ws' := cw ad cI cR cS mem) (lv' := [(0, .ref (ad 106)), (1, .int x), (2, .int b)]) (st' := [.ref (ad (3 * x.toNatClampNeg))]) rfl rfl rfl ?_
  refine z_astore_n (lv' := [(3, .ref (ad (3 * x.toNatClampNeg))), (0, .ref (ad 106)), (1, .int x), (2, .int b)]) E dX5_on_5 rfl (by decide) rfl ?_
  refine z_iload_n E dX5_on_6 rfl 3 rfl ?_
  refine z_bipush (v := 20) E dX5_on_7 (by decide) ?_
  refine z_sipush (v := 150) E dX5_on_9 (by decide) ?_
  by_cases hR12 : b < 20 ∨ 150 < b
  · skip
    exact z_callSvX E hZ (k_range_bad l D ad cI cR cS cL mem hl b 20 150 hR12) gX5_on_X5_demandRange (n := 3) rfl rfl rfl (by decide +kernel) rfl ⟨(Nat.le_of_ble_eq_true rfl), (Nat.le_of_ble_eq_true rfl)⟩ (As := [.int b, .int 20, .int 150]) (rest := []) rfl (Nat.le_of_ble_eq_true rfl) ⟨(hcs _ _ ((if_neg hL).trans (if_pos hR12))).1, (hcs _ _ ((if_neg hL).trans (if_pos hR12))).2⟩ dX5_on_12 (fun E0 u q9 ce H locs ls hpx hP hD hS hl1 h1 h2 h3 => zx_out (py := (fun E u => sOn mem q z x b = (.inl E, u))) (outy := cw ad cI cR cS) E htb hlocks u (by rw [hpx.1, hpx.2]; exact ((if_neg hL).trans (if_pos hR12))) hP hD hS h1 h2 h3 (hcs _ _ ((if_neg hL).trans (if_pos hR12))).1 (hcs _ _ ((if_neg hL).trans (if_pos hR12))).2) (fun u hp => hp.elim)
  refine z_callSv E hZ (k_range l D ad cI cR cS cL mem b 20 150 hR12) gX5_on_X5_demandRange (n := 3) rfl rfl rfl (by decide +kernel) rfl ⟨(Nat.le_of_ble_eq_true rfl), (Nat.le_of_ble_eq_true rfl)⟩ (As := [.int b, .int 20, .int 150]) (rest := []) rfl (Nat.le_of_ble_eq_true rfl) ⟨(Nat.le_of_ble_eq_true rfl), (Nat.le_of_ble_eq_true rfl)⟩ dX5_on_12 (fun u hp => ?_)
  rw [hp]
  refine z_aload_n E dX5_on_15 rfl 0 rfl ?_
  refine z_callVi E hZ (k_isFull l D ad cI cR cS cL mem (by omega)) gX5_on_X2_isFull (n := 0) rfl rfl rfl (by decide +kernel) rfl ⟨Nat.le_of_ble_eq_true rfl, Nat.le_of_ble_eq_true rfl⟩  (C := RX2) rfl (3 * x.toNatClampNeg) (cw_rig (by omega)) (As := []) (rest := []) rfl (Nat.le_of_ble_eq_true rfl) ⟨Nat.zero_le _, Nat.zero_le _⟩ dX5_on_16 (fun r u hp => ?_)
  rw [hp.1, hp.2]
  refine z_if_eq (tgt := 32) E dX5_on_19 (by decide) (fun c19 => ?_) (fun c19 => ?_)
  · skip
    refine z_aload_n E dX5_on_32 rfl 1 rfl ?_
    refine z_get E 106 cw_lad (C := RX5) (T := TX5) (N := 4) rfl (fun _ h => List.mem_cons_of_mem _ (List.mem_append_left _ (List.mem_append_left _ (List.mem_append_left _ (List.mem_append_left _ (List.mem_append_left _ (List.mem_append_left _ (List.mem_append_right _ h)))))))) 1 (by decide) (List.mem_of_getElem? (i := 3) (by decide +kernel)) rfl (v := .ref (ad 101)) rfl dX5_on_33 ?_
    refine z_aload_n E dX5_on_36 rfl 1 rfl ?_
    refine z_get E 106 cw_lad (C := RX5) (T := TX5) (N := 4) rfl (fun _ h => List.mem_cons_of_mem _ (List.mem_append_left _ (List.mem_append_left _ (List.mem_append_left _ (List.mem_append_left _ (List.mem_append_left _ (List.mem_append_left _ (List.mem_append_right _ h)))))))) 0 (by decide) (List.mem_of_getElem? (i := 4) (by decide +kernel)) rfl (v := .ref (ad (87 + 0))) rfl dX5_on_37 ?_
    refine z_callVv E hZ (k_save l D ad cI cR cS cL mem hq hn hz hs) gX5_on_X0_save (n := 1) rfl rfl rfl (by decide +kernel) rfl ⟨Nat.le_of_ble_eq_true rfl, Nat.le_of_ble_eq_true rfl⟩  (C := RX0) rfl 101 cw_hist (As := [.ref (ad (87 + 0))]) (rest := []) rfl (Nat.le_of_ble_eq_true rfl) ⟨Nat.zero_le _, Nat.zero_le _⟩ dX5_on_40 (fun u hp => ?_)
    rw [hp]
    refine z_gm (fun m1 hm1 => ?_)
    refine z_aload_n E dX5_on_43 rfl 0 rfl ?_
    refine z_iload_n E dX5_on_44 rfl 3 rfl ?_
    refine z_callVv E hZ (k_add l D ad cI cR cS cL m1 (by omega) b) gX5_on_X2_add (n := 1) rfl rfl rfl (by decide +kernel) rfl ⟨Nat.le_of_ble_eq_true rfl, Nat.le_of_ble_eq_true rfl⟩  (C := RX2) rfl (3 * x.toNatClampNeg) (cw_rig (by omega)) (As := [.int b]) (rest := []) rfl (Nat.le_of_ble_eq_true rfl) ⟨Nat.zero_le _, Nat.zero_le _⟩ dX5_on_45 (fun u hp => ?_)
    rw [hp]
    refine z_gm (fun m2 hm2 => ?_)
    refine z_aload_n E dX5_on_48 rfl 1 rfl ?_
    refine z_get E 106 cw_lad (C := RX5) (T := TX5) (N := 4) rfl (fun _ h => List.mem_cons_of_mem _ (List.mem_append_left _ (List.mem_append_left _ (List.mem_append_left _ (List.mem_append_left _ (List.mem_append_left _ (List.mem_append_left _ (List.mem_append_right _ h)))))))) 0 (by decide) (List.mem_of_getElem? (i := 4) (by decide +kernel)) rfl (v := .ref (ad (87 + 0))) rfl dX5_on_49 ?_
    refine z_aload_n E dX5_on_52 rfl 0 rfl ?_
    refine z_callVi E hZ (k_fallsNow l D ad cI cR cS cL m2 (by omega) (by omega)) gX5_on_X3_fallsNow (n := 1) rfl rfl rfl (by decide +kernel) rfl ⟨Nat.le_of_ble_eq_true rfl, Nat.le_of_ble_eq_true rfl⟩  (C := RX3) rfl (87 + 0) (cw_site (by omega)) (As := [.ref (ad (3 * x.toNatClampNeg))]) (rest := []) rfl (Nat.le_of_ble_eq_true rfl) ⟨Nat.zero_le _, Nat.zero_le _⟩ dX5_on_53 (fun r u hp => ?_)
    rw [hp.1, hp.2]
    refine z_gm (fun m3 hm3 => ?_)
    refine z_pop E dX5_on_56 rfl ?_
    refine z_aload_n E dX5_on_57 rfl 0 rfl ?_
    refine z_get E (3 * x.toNatClampNeg) (cw_rig (by omega)) (C := RX2) (T := TX2) (N := 10) rfl (fun _ h => List.mem_cons_of_mem _ (List.mem_append_left _ (List.mem_append_left _ (List.mem_append_left _ (List.mem_append_left _ (List.mem_append_left _ (List.mem_append_right _ h))))))) 7 (by decide) (List.mem_of_getElem? (i := 5) (by decide +kernel)) rfl (v := .int (m3 (3 * x.toNatClampNeg) 7)) rfl dX5_on_58 ?_
    exact z_iretX E hr hlocks (m3) rfl (by subst hm1; subst hm2; subst hm3; exact ((if_neg hL).trans ((if_neg hR12).trans (if_pos c19)))) (Nat.zero_le _) (Nat.zero_le _) dX5_on_61
  · skip
    exact zx_throwS (py := (fun E u => sOn mem q z x b = (.inl E, u))) (outy := cw ad cI cR cS) E hZ hl hlocks htb (cls := "java/lang/IllegalStateException") (text := "the ladder is full") (names := ["java/lang/RuntimeException", "java/lang/Exception"]) (ik := 76) (is := 78) (ic := 80) (by decide +kernel) (by decide +kernel) (List.mem_of_getElem? (i := 1) (by decide +kernel)) (List.mem_of_getElem? (i := 2) (by decide +kernel)) hZ.2.2.2.2.1 (fun _ h => List.mem_cons_of_mem _ (List.mem_append_left _ (List.mem_append_left _ (List.mem_append_right _ h)))) (by decide +kernel) (by decide +kernel) dX5_on_22 dX5_on_25 dX5_on_26 dX5_on_28 dX5_on_31 (Nat.le_of_ble_eq_true rfl) (Nat.le_of_ble_eq_true rfl) ((hcs _ _ ((if_neg hL).trans ((if_neg hR12).trans (if_neg c19)))).1) ((hcs _ _ ((if_neg hL).trans ((if_neg hR12).trans (if_neg c19)))).2) (mem) ((if_neg hL).trans ((if_neg hR12).trans (if_neg c19))) rfl ((hcs _ _ ((if_neg hL).trans ((if_neg hR12).trans (if_neg c19)))).1) ((hcs _ _ ((if_neg hL).trans ((if_neg hR12).trans (if_neg c19)))).2)
def sOff (mem : zM) (q z : Nat) (x b : Int32) : zO := if x < 0 ∨ 4 ≤ x then (.inl "java/lang/IndexOutOfBoundsException", mem) else if fBears (rv mem x.toNatClampNeg) b = 0 then (.inl "java/lang/IndexOutOfBoundsException", mem) else (.inr (sFN (sRemove (sSave mem q z) x.toNatClampNeg b) 0 x.toNatClampNeg (3 * x.toNatClampNeg) 7), sFN (sRemove (sSave mem q z) x.toNatClampNeg b) 0 x.toNatClampNeg)
set_option maxHeartbeats 1000000 in
set_option maxRecDepth 100000 in
theorem k_off (l : Launch) (D : va_G) (ad : Nat → Nat) (cI cR cS cL : ClassId) (mem : zM) {c0 s0 : Nat} (hl : l.stackTraces = false) (x b : Int32) {q : Nat} (hq : q < 6) (hn : mem 101 1 = nI q) {z : Nat} (hz : z ≤ 6) (hs : mem 101 2 = nI z) (hcs : ∀ (E : String) (u : zM), sOff mem q z x b = (.inl E, u) → 1 ≤ c0 ∧ 6 ≤ s0) : zXi l yX5_off wsX5_off ({ frames := 7, cells := c0, slots := s0, locals := 112 }) D (cK cI cR cS cL) [.ref (ad 106), .int x, .int b] (cw ad cI cR cS mem) (fun r u => sOff mem q z x b = (.inr r, u)) (cw ad cI cR cS) (fun E u => sOff mem q z x b = (.inl E, u)) (cw ad cI cR cS) c0 s0 := by
  refine zMiX.of (cc := cX5_off) (maxL := 4) (ret := (some .int)) (by decide +kernel) rfl (lv0 := [(0, .ref (ad 106)), (1, .int x), (2, .int b)]) (Nat.le_of_ble_eq_true rfl) rfl ?_
  intro p e s m args below meth c E hZ hr hlocks htb hnm
  refine z_aload_n E dX5_off_0 rfl 0 rfl ?_
  refine z_iload_n E dX5_off_1 rfl 1 rfl ?_
  by_cases hL : x < 0 ∨ 4 ≤ x
  · skip
    exact z_callVqX E hZ (k_rigOf_bad l D ad cI cR cS cL mem hl x hL) gX5_off_X5_rigOf (n := 1) rfl rfl rfl (by decide +kernel) rfl ⟨(Nat.le_of_ble_eq_true rfl), (Nat.le_of_ble_eq_true rfl)⟩ (C := RX5) rfl 106 cw_lad (As := [.int x]) (rest := []) rfl (Nat.le_of_ble_eq_true rfl) ⟨(hcs _ _ (if_pos hL)).1, (hcs _ _ (if_pos hL)).2⟩ dX5_off_2 (fun E0 u q9 ce H locs ls hpx hP hD hS hl1 h1 h2 h3 => zx_out (py := (fun E u => sOff mem q z x b = (.inl E, u))) (outy := cw ad cI cR cS) E htb hlocks u (by rw [hpx.1, hpx.2]; exact (if_pos hL)) hP hD hS h1 h2 h3 (hcs _ _ (if_pos hL)).1 (hcs _ _ (if_pos hL)).2) (fun r u hp => hp.elim)
  have hj4 : x.toNatClampNeg < 4 := zcl4 hL
  refine z_callVq E hZ (k_rigOf l D ad cI cR cS cL mem x hL) gX5_off_X5_rigOf (n := 1) rfl rfl rfl (by decide +kernel) rfl ⟨(Nat.le_of_ble_eq_true rfl), (Nat.le_of_ble_eq_true rfl)⟩ (C := RX5) rfl 106 cw_lad (As := [.int x]) (rest := []) rfl (Nat.le_of_ble_eq_true rfl) ⟨(Nat.le_of_ble_eq_true rfl), (Nat.le_of_ble_eq_true rfl)⟩ dX5_off_2 (fun r u hp => ?_)
  rw [hp.1, hp.2]
  refine z_eq (ws' := cw ad cI cR cS mem) (lv' := [(0, .ref (ad 106)), (1, .int x), (2, .int b)]) (st' := [.ref (ad (3 * x.toNatClampNeg))]) rfl rfl rfl ?_
  refine z_astore_n (lv' := [(3, .ref (ad (3 * x.toNatClampNeg))), (0, .ref (ad 106)), (1, .int x), (2, .int b)]) E dX5_off_5 rfl (by decide) rfl ?_
  refine z_aload_n E dX5_off_6 rfl 0 rfl ?_
  refine z_iload_n E dX5_off_7 rfl 3 rfl ?_
  by_cases hPe : fBears (rv mem x.toNatClampNeg) b = 0
  · skip
    exact z_callSvX E hZ (k_person_bad l D ad cI cR cS cL mem hl (j := x.toNatClampNeg) (by omega) b hPe) gX5_off_X5_demandPerson (n := 2) rfl rfl rfl (by decide +kernel) rfl ⟨(Nat.le_of_ble_eq_true rfl), (Nat.le_of_ble_eq_true rfl)⟩ (As := [.ref (ad (3 * x.toNatClampNeg)), .int b]) (rest := []) rfl (Nat.le_of_ble_eq_true rfl) ⟨(hcs _ _ ((if_neg hL).trans (if_pos hPe))).1, (hcs _ _ ((if_neg hL).trans (if_pos hPe))).2⟩ dX5_off_8 (fun E0 u q9 ce H locs ls hpx hP hD hS hl1 h1 h2 h3 => zx_out (py := (fun E u => sOff mem q z x b = (.inl E, u))) (outy := cw ad cI cR cS) E htb hlocks u (by rw [hpx.1, hpx.2]; exact ((if_neg hL).trans (if_pos hPe))) hP hD hS h1 h2 h3 (hcs _ _ ((if_neg hL).trans (if_pos hPe))).1 (hcs _ _ ((if_neg hL).trans (if_pos hPe))).2) (fun u hp => hp.elim)
  refine z_callSv E hZ (k_personOk l D ad cI cR cS cL mem (j := x.toNatClampNeg) (by omega) b hPe) gX5_off_X5_demandPerson (n := 2) rfl rfl rfl (by decide +kernel) rfl ⟨(Nat.le_of_ble_eq_true rfl), (Nat.le_of_ble_eq_true rfl)⟩ (As := [.ref (ad (3 * x.toNatClampNeg)), .int b]) (rest := []) rfl (Nat.le_of_ble_eq_true rfl) ⟨(Nat.le_of_ble_eq_true rfl), (Nat.le_of_ble_eq_true rfl)⟩ dX5_off_8 (fun u hp => ?_)
  rw [hp]
  refine z_aload_n E dX5_off_11 rfl 1 rfl ?_
  refine z_get E 106 cw_lad (C := RX5) (T := TX5) (N := 4) rfl (fun _ h => List.mem_cons_of_mem _ (List.mem_append_left _ (List.mem_append_left _ (List.mem_append_left _ (List.mem_append_left _ (List.mem_append_right _ h)))))) 1 (by decide) (List.mem_of_getElem? (i := 1) (by decide +kernel)) rfl (v := .ref (ad 101)) rfl dX5_off_12 ?_
  refine z_aload_n E dX5_off_15 rfl 1 rfl ?_
  refine z_get E 106 cw_lad (C := RX5) (T := TX5) (N := 4) rfl (fun _ h => List.mem_cons_of_mem _ (List.mem_append_left _ (List.mem_append_left _ (List.mem_append_left _ (List.mem_append_left _ (List.mem_append_right _ h)))))) 0 (by decide) (List.mem_of_getElem? (i := 2) (by decide +kernel)) rfl (v := .ref (ad (87 + 0))) rfl dX5_off_16 ?_
  refine z_callVv E hZ (k_save l D ad cI cR cS cL mem hq hn hz hs) gX5_off_X0_save (n := 1) rfl rfl rfl (by decide +kernel) rfl ⟨Nat.le_of_ble_eq_true rfl, Nat.le_of_ble_eq_true rfl⟩  (C := RX0) rfl 101 cw_hist (As := [.ref (ad (87 + 0))]) (rest := []) rfl (Nat.le_of_ble_eq_true rfl) ⟨Nat.zero_le _, Nat.zero_le _⟩ dX5_off_19 (fun u hp => ?_)
  rw [hp]
  refine z_gm (fun m1 hm1 => ?_)
  refine z_aload_n E dX5_off_22 rfl 0 rfl ?_
  refine z_iload_n E dX5_off_23 rfl 3 rfl ?_
  refine z_callVv E hZ (k_remove l D ad cI cR cS cL m1 (by omega) b) gX5_off_X2_remove (n := 1) rfl rfl rfl (by decide +kernel) rfl ⟨Nat.le_of_ble_eq_true rfl, Nat.le_of_ble_eq_true rfl⟩  (C := RX2) rfl (3 * x.toNatClampNeg) (cw_rig (by omega)) (As := [.int b]) (rest := []) rfl (Nat.le_of_ble_eq_true rfl) ⟨Nat.zero_le _, Nat.zero_le _⟩ dX5_off_24 (fun u hp => ?_)
  rw [hp]
  refine z_gm (fun m2 hm2 => ?_)
  refine z_aload_n E dX5_off_27 rfl 1 rfl ?_
  refine z_get E 106 cw_lad (C := RX5) (T := TX5) (N := 4) rfl (fun _ h => List.mem_cons_of_mem _ (List.mem_append_left _ (List.mem_append_left _ (List.mem_append_left _ (List.mem_append_left _ (List.mem_append_right _ h)))))) 0 (by decide) (List.mem_of_getElem? (i := 2) (by decide +kernel)) rfl (v := .ref (ad (87 + 0))) rfl dX5_off_28 ?_
  refine z_aload_n E dX5_off_31 rfl 0 rfl ?_
  refine z_callVi E hZ (k_fallsNow l D ad cI cR cS cL m2 (by omega) (by omega)) gX5_off_X3_fallsNow (n := 1) rfl rfl rfl (by decide +kernel) rfl ⟨Nat.le_of_ble_eq_true rfl, Nat.le_of_ble_eq_true rfl⟩  (C := RX3) rfl (87 + 0) (cw_site (by omega)) (As := [.ref (ad (3 * x.toNatClampNeg))]) (rest := []) rfl (Nat.le_of_ble_eq_true rfl) ⟨Nat.zero_le _, Nat.zero_le _⟩ dX5_off_32 (fun r u hp => ?_)
  rw [hp.1, hp.2]
  refine z_gm (fun m3 hm3 => ?_)
  refine z_pop E dX5_off_35 rfl ?_
  refine z_aload_n E dX5_off_36 rfl 0 rfl ?_
  refine z_get E (3 * x.toNatClampNeg) (cw_rig (by omega)) (C := RX2) (T := TX2) (N := 10) rfl (fun _ h => List.mem_cons_of_mem _ (List.mem_append_left _ (List.mem_append_left _ (List.mem_append_left _ (List.mem_append_right _ h))))) 7 (by decide) (List.mem_of_getElem? (i := 3) (by decide +kernel)) rfl (v := .int (m3 (3 * x.toNatClampNeg) 7)) rfl dX5_off_37 ?_
  exact z_iretX E hr hlocks (m3) rfl (by subst hm1; subst hm2; subst hm3; exact ((if_neg hL).trans (if_neg hPe))) (Nat.zero_le _) (Nat.zero_le _) dX5_off_40
theorem fBears_nI {R : Nat → Int32} {b : Int32} (h : ¬ fBears R b = 0) : ∃ k, k < 3 ∧ b = nI k := by
  obtain ⟨k, hk, e⟩ := vp_in_of (fBears_in h) (by decide)
  exact ⟨k, hk, e⟩
theorem zin_nI {g H : Int32} {n : Nat} (hH : H.toInt = n) (h : ¬ (g < 0 ∨ H < g)) : ∃ k, k ≤ n ∧ g = nI k := nI_of2 hH (fun a => h (Or.inl a)) (Int32.not_lt.mp (fun a => h (Or.inr a)))
theorem rv_save {mem : zM} {q z j : Nat} (hq : q < 6) (hj : j < 4) : rv (sSave mem q z) j = rv mem j := rv_eq (sSave_ne (by omega) hq) (sSave_ne (by omega) hq) (sSave_ne (by omega) hq)
/-- one climbs, from the step a -/
def sWalk (mem : zM) (j k b a : Nat) : Int32 × zM := wkGo 0 j k (zway a b) (nI b) (zdist a b) mem
def sClimb (mem : zM) (q z : Nat) (x b g : Int32) : zO := if x < 0 ∨ 4 ≤ x then (.inl "java/lang/IndexOutOfBoundsException", mem) else if fBears (rv mem x.toNatClampNeg) b = 0 then (.inl "java/lang/IndexOutOfBoundsException", mem) else if g < 0 ∨ 10 < g then (.inl "java/lang/IllegalArgumentException", mem) else (.inr (sWalk (sSave mem q z) x.toNatClampNeg b.toNatClampNeg g.toNatClampNeg (mem (3 * x.toNatClampNeg + 2) b.toNatClampNeg).toNatClampNeg).1, (sWalk (sSave mem q z) x.toNatClampNeg b.toNatClampNeg g.toNatClampNeg (mem (3 * x.toNatClampNeg + 2) b.toNatClampNeg).toNatClampNeg).2)
set_option maxHeartbeats 1000000 in
set_option maxRecDepth 100000 in
theorem k_climb (l : Launch) (D : va_G) (ad : Nat → Nat) (cI cR cS cL : ClassId) (mem : zM) {c0 s0 : Nat} (hl : l.stackTraces = false) (x b g : Int32) {q : Nat} (hq : q < 6) (hn : mem 101 1 = nI q) {z : Nat} (hz : z ≤ 6) (hs : mem 101 2 = nI z) (hA : ∀ i, i < 4 → ∀ t, t < 3 → ∃ a, a ≤ 10 ∧ mem (3 * i + 2) t = nI a) (hcs : ∀ (E : String) (u : zM), sClimb mem q z x b g = (.inl E, u) → 1 ≤ c0 ∧ 6 ≤ s0) : zXi l yX5_climb wsX5_climb ({ frames := 7, cells := c0, slots := s0, locals := 112 }) D (cK cI cR cS cL) [.ref (ad 106), .int x, .int b, .int g] (cw ad cI cR cS mem) (fun r u => sClimb mem q z x b g = (.inr r, u)) (cw ad cI cR cS) (fun E u => sClimb mem q z x b g = (.inl E, u)) (cw ad cI cR cS) c0 s0 := by
  refine zMiX.of (cc := cX5_climb) (maxL := 5) (ret := (some .int)) (by decide +kernel) rfl (lv0 := [(0, .ref (ad 106)), (1, .int x), (2, .int b), (3, .int g)]) (Nat.le_of_ble_eq_true rfl) rfl ?_
  intro p e s m args below meth c E hZ hr hlocks htb hnm
  refine z_aload_n E dX5_climb_0 rfl 0 rfl ?_
  refine z_iload_n E dX5_climb_1 rfl 1 rfl ?_
  by_cases hL : x < 0 ∨ 4 ≤ x
  · skip
    exact z_callVqX E hZ (k_rigOf_bad l D ad cI cR cS cL mem hl x hL) gX5_climb_X5_rigOf (n := 1) rfl rfl rfl (by decide +kernel) rfl ⟨(Nat.le_of_ble_eq_true rfl), (Nat.le_of_ble_eq_true rfl)⟩ (C := RX5) rfl 106 cw_lad (As := [.int x]) (rest := []) rfl (Nat.le_of_ble_eq_true rfl) ⟨(hcs _ _ (if_pos hL)).1, (hcs _ _ (if_pos hL)).2⟩ dX5_climb_2 (fun E0 u q9 ce H locs ls hpx hP hD hS hl1 h1 h2 h3 => zx_out (py := (fun E u => sClimb mem q z x b g = (.inl E, u))) (outy := cw ad cI cR cS) E htb hlocks u (by rw [hpx.1, hpx.2]; exact (if_pos hL)) hP hD hS h1 h2 h3 (hcs _ _ (if_pos hL)).1 (hcs _ _ (if_pos hL)).2) (fun r u hp => hp.elim)
  have hj4 : x.toNatClampNeg < 4 := zcl4 hL
  refine z_callVq E hZ (k_rigOf l D ad cI cR cS cL mem x hL) gX5_climb_X5_rigOf (n := 1) rfl rfl rfl (by decide +kernel) rfl ⟨(Nat.le_of_ble_eq_true rfl), (Nat.le_of_ble_eq_true rfl)⟩ (C := RX5) rfl 106 cw_lad (As := [.int x]) (rest := []) rfl (Nat.le_of_ble_eq_true rfl) ⟨(Nat.le_of_ble_eq_true rfl), (Nat.le_of_ble_eq_true rfl)⟩ dX5_climb_2 (fun r u hp => ?_)
  rw [hp.1, hp.2]
  refine z_eq (ws' := cw ad cI cR cS mem) (lv' := [(0, .ref (ad 106)), (1, .int x), (2, .int b), (3, .int g)]) (st' := [.ref (ad (3 * x.toNatClampNeg))]) rfl rfl rfl ?_
  refine z_astore (lv' := [(4, .ref (ad (3 * x.toNatClampNeg))), (0, .ref (ad 106)), (1, .int x), (2, .int b), (3, .int g)]) E dX5_climb_5 (by decide) rfl ?_
  refine z_aload E dX5_climb_7 0 rfl ?_
  refine z_iload_n E dX5_climb_9 rfl 3 rfl ?_
  by_cases hPe : fBears (rv mem x.toNatClampNeg) b = 0
  · skip
    exact z_callSvX E hZ (k_person_bad l D ad cI cR cS cL mem hl (j := x.toNatClampNeg) (by omega) b hPe) gX5_climb_X5_demandPerson (n := 2) rfl rfl rfl (by decide +kernel) rfl ⟨(Nat.le_of_ble_eq_true rfl), (Nat.le_of_ble_eq_true rfl)⟩ (As := [.ref (ad (3 * x.toNatClampNeg)), .int b]) (rest := []) rfl (Nat.le_of_ble_eq_true rfl) ⟨(hcs _ _ ((if_neg hL).trans (if_pos hPe))).1, (hcs _ _ ((if_neg hL).trans (if_pos hPe))).2⟩ dX5_climb_10 (fun E0 u q9 ce H locs ls hpx hP hD hS hl1 h1 h2 h3 => zx_out (py := (fun E u => sClimb mem q z x b g = (.inl E, u))) (outy := cw ad cI cR cS) E htb hlocks u (by rw [hpx.1, hpx.2]; exact ((if_neg hL).trans (if_pos hPe))) hP hD hS h1 h2 h3 (hcs _ _ ((if_neg hL).trans (if_pos hPe))).1 (hcs _ _ ((if_neg hL).trans (if_pos hPe))).2) (fun u hp => hp.elim)
  refine z_callSv E hZ (k_personOk l D ad cI cR cS cL mem (j := x.toNatClampNeg) (by omega) b hPe) gX5_climb_X5_demandPerson (n := 2) rfl rfl rfl (by decide +kernel) rfl ⟨(Nat.le_of_ble_eq_true rfl), (Nat.le_of_ble_eq_true rfl)⟩ (As := [.ref (ad (3 * x.toNatClampNeg)), .int b]) (rest := []) rfl (Nat.le_of_ble_eq_true rfl) ⟨(Nat.le_of_ble_eq_true rfl), (Nat.le_of_ble_eq_true rfl)⟩ dX5_climb_10 (fun u hp => ?_)
  rw [hp]
  refine z_iload_n E dX5_climb_13 rfl 4 rfl ?_
  refine z_iconst (v := 0) E dX5_climb_14 (by decide) ?_
  refine z_bipush (v := 10) E dX5_climb_15 (by decide) ?_
  by_cases hR17 : g < 0 ∨ 10 < g
  · skip
    exact z_callSvX E hZ (k_range_bad l D ad cI cR cS cL mem hl g 0 10 hR17) gX5_climb_X5_demandRange (n := 3) rfl rfl rfl (by decide +kernel) rfl ⟨(Nat.le_of_ble_eq_true rfl), (Nat.le_of_ble_eq_true rfl)⟩ (As := [.int g, .int 0, .int 10]) (rest := []) rfl (Nat.le_of_ble_eq_true rfl) ⟨(hcs _ _ ((if_neg hL).trans ((if_neg hPe).trans (if_pos hR17)))).1, (hcs _ _ ((if_neg hL).trans ((if_neg hPe).trans (if_pos hR17)))).2⟩ dX5_climb_17 (fun E0 u q9 ce H locs ls hpx hP hD hS hl1 h1 h2 h3 => zx_out (py := (fun E u => sClimb mem q z x b g = (.inl E, u))) (outy := cw ad cI cR cS) E htb hlocks u (by rw [hpx.1, hpx.2]; exact ((if_neg hL).trans ((if_neg hPe).trans (if_pos hR17)))) hP hD hS h1 h2 h3 (hcs _ _ ((if_neg hL).trans ((if_neg hPe).trans (if_pos hR17)))).1 (hcs _ _ ((if_neg hL).trans ((if_neg hPe).trans (if_pos hR17)))).2) (fun u hp => hp.elim)
  refine z_callSv E hZ (k_range l D ad cI cR cS cL mem g 0 10 hR17) gX5_climb_X5_demandRange (n := 3) rfl rfl rfl (by decide +kernel) rfl ⟨(Nat.le_of_ble_eq_true rfl), (Nat.le_of_ble_eq_true rfl)⟩ (As := [.int g, .int 0, .int 10]) (rest := []) rfl (Nat.le_of_ble_eq_true rfl) ⟨(Nat.le_of_ble_eq_true rfl), (Nat.le_of_ble_eq_true rfl)⟩ dX5_climb_17 (fun u hp => ?_)
  rw [hp]
  obtain ⟨kb, hkb, rfl⟩ := fBears_nI hPe
  obtain ⟨kg, hkg, rfl⟩ := zin_nI (n := 10) (by decide) hR17
  obtain ⟨a, ha, hcur⟩ := hA _ hj4 kb hkb
  have eb : (nI kb).toNatClampNeg = kb := nI_clamp (by omega)
  have eg : (nI kg).toNatClampNeg = kg := nI_clamp (by omega)
  have ea : (mem (3 * x.toNatClampNeg + 2) kb).toNatClampNeg = a := by rw [hcur, nI_clamp (by omega)]
  refine z_aload_n E dX5_climb_20 rfl 1 rfl ?_
  refine z_get E 106 cw_lad (C := RX5) (T := TX5) (N := 4) rfl (fun _ h => List.mem_cons_of_mem _ (List.mem_append_left _ (List.mem_append_left _ (List.mem_append_left _ (List.mem_append_left _ (List.mem_append_left _ (List.mem_append_right _ h))))))) 1 (by decide) (List.mem_of_getElem? (i := 1) (by decide +kernel)) rfl (v := .ref (ad 101)) rfl dX5_climb_21 ?_
  refine z_aload_n E dX5_climb_24 rfl 1 rfl ?_
  refine z_get E 106 cw_lad (C := RX5) (T := TX5) (N := 4) rfl (fun _ h => List.mem_cons_of_mem _ (List.mem_append_left _ (List.mem_append_left _ (List.mem_append_left _ (List.mem_append_left _ (List.mem_append_left _ (List.mem_append_right _ h))))))) 0 (by decide) (List.mem_of_getElem? (i := 2) (by decide +kernel)) rfl (v := .ref (ad (87 + 0))) rfl dX5_climb_25 ?_
  refine z_callVv E hZ (k_save l D ad cI cR cS cL mem hq hn hz hs) gX5_climb_X0_save (n := 1) rfl rfl rfl (by decide +kernel) rfl ⟨Nat.le_of_ble_eq_true rfl, Nat.le_of_ble_eq_true rfl⟩  (C := RX0) rfl 101 cw_hist (As := [.ref (ad (87 + 0))]) (rest := []) rfl (Nat.le_of_ble_eq_true rfl) ⟨Nat.zero_le _, Nat.zero_le _⟩ dX5_climb_28 (fun u hp => ?_)
  rw [hp]
  refine z_gm (fun m1 hm1 => ?_)
  refine z_aload_n E dX5_climb_31 rfl 1 rfl ?_
  refine z_get E 106 cw_lad (C := RX5) (T := TX5) (N := 4) rfl (fun _ h => List.mem_cons_of_mem _ (List.mem_append_left _ (List.mem_append_left _ (List.mem_append_left _ (List.mem_append_left _ (List.mem_append_left _ (List.mem_append_right _ h))))))) 0 (by decide) (List.mem_of_getElem? (i := 2) (by decide +kernel)) rfl (v := .ref (ad (87 + 0))) rfl dX5_climb_32 ?_
  refine z_aload E dX5_climb_35 0 rfl ?_
  refine z_iload_n E dX5_climb_37 rfl 3 rfl ?_
  refine z_iload_n E dX5_climb_38 rfl 4 rfl ?_
  have hc1 : m1 (3 * x.toNatClampNeg + 2) kb = nI a := by rw [hm1, sSave_ne (Or.inl (by omega)) hq]; exact hcur
  have hb1 : ¬ fBears (rv m1 x.toNatClampNeg) (nI kb) = 0 := by rw [hm1, rv_save hq hj4]; exact hPe
  refine z_callVi E hZ (k_walk l D ad cI cR cS cL m1 (t := 0) (by omega) (j := x.toNatClampNeg) (by omega) (q := kb) hkb (a := a) (b := kg) ha hkg hc1 hb1) gX5_climb_X3_walk (n := 3) rfl rfl rfl (by decide +kernel) rfl ⟨Nat.le_of_ble_eq_true rfl, Nat.le_of_ble_eq_true rfl⟩  (C := RX3) rfl (87 + 0) (cw_site (by omega)) (As := [.ref (ad (3 * x.toNatClampNeg)), .int (nI kb), .int (nI kg)]) (rest := []) rfl (Nat.le_of_ble_eq_true rfl) ⟨Nat.zero_le _, Nat.zero_le _⟩ dX5_climb_39 (fun r u hp => ?_)
  rw [hp.1, hp.2]
  refine z_gm (fun m2 hm2 => ?_)
  exact z_iretX E hr hlocks (m2) rfl (by subst hm1; subst hm2; exact ((if_neg hL).trans ((if_neg hPe).trans ((if_neg hR17).trans (by rw [eb, eg, ea]; rfl))))) (Nat.zero_le _) (Nat.zero_le _) dX5_climb_42
def sAppend (mem : zM) (x : Int32) : zO := if x < 33 ∨ 126 < x then (.inl "java/lang/IllegalArgumentException", mem) else if fWFull mem = 0 then (.inr (sWAdd mem x 103 1), sWAdd mem x) else (.inl "java/lang/IllegalStateException", mem)
def sUndo (mem : zM) (q z : Nat) : zO := if mem 101 2 = 0 then (.inl "java/lang/IllegalStateException", mem) else (.inr (sRest mem (latest q) z 101 2), sRest mem (latest q) z)
set_option maxHeartbeats 1000000 in
set_option maxRecDepth 100000 in
theorem k_undo (l : Launch) (D : va_G) (ad : Nat → Nat) (cI cR cS cL : ClassId) (mem : zM) {c0 s0 : Nat} (hl : l.stackTraces = false) {q : Nat} (hq : q < 6) (hn : mem 101 1 = nI q) {z : Nat} (hz : z ≤ 6) (hs : mem 101 2 = nI z) (hcs : ∀ (E : String) (u : zM), sUndo mem q z = (.inl E, u) → 1 ≤ c0 ∧ 6 ≤ s0) : zXi l yX5_undo wsX5_undo ({ frames := 6, cells := c0, slots := s0, locals := 90 }) D (cK cI cR cS cL) [.ref (ad 106)] (cw ad cI cR cS mem) (fun r u => sUndo mem q z = (.inr r, u)) (cw ad cI cR cS) (fun E u => sUndo mem q z = (.inl E, u)) (cw ad cI cR cS) c0 s0 := by
  refine zMiX.of (cc := cX5_undo) (maxL := 1) (ret := (some .int)) (by decide +kernel) rfl (lv0 := [(0, .ref (ad 106))]) (Nat.le_of_ble_eq_true rfl) rfl ?_
  intro p e s m args below meth c E hZ hr hlocks htb hnm
  refine z_aload_n E dX5_undo_0 rfl 0 rfl ?_
  refine z_get E 106 cw_lad (C := RX5) (T := TX5) (N := 4) rfl (fun _ h => List.mem_cons_of_mem _ (List.mem_append_left _ (List.mem_append_left _ (List.mem_append_left _ (List.mem_append_left _ (List.mem_append_right _ h)))))) 1 (by decide) (List.mem_of_getElem? (i := 3) (by decide +kernel)) rfl (v := .ref (ad 101)) rfl dX5_undo_1 ?_
  refine z_get E 101 cw_hist (C := RX0) (T := TX0) (N := 3) rfl (fun _ h => List.mem_cons_of_mem _ (List.mem_append_left _ (List.mem_append_left _ (List.mem_append_left _ (List.mem_append_right _ h))))) 2 (by decide) (List.mem_of_getElem? (i := 4) (by decide +kernel)) rfl (v := .int (mem 101 2)) rfl dX5_undo_4 ?_
  refine z_if_ne (tgt := 20) E dX5_undo_7 (by decide) (fun c7 => ?_) (fun c7 => ?_)
  · skip
    refine z_aload_n E dX5_undo_20 rfl 0 rfl ?_
    refine z_get E 106 cw_lad (C := RX5) (T := TX5) (N := 4) rfl (fun _ h => List.mem_cons_of_mem _ (List.mem_append_left _ (List.mem_append_left _ (List.mem_append_left _ (List.mem_append_left _ (List.mem_append_right _ h)))))) 1 (by decide) (List.mem_of_getElem? (i := 3) (by decide +kernel)) rfl (v := .ref (ad 101)) rfl dX5_undo_21 ?_
    refine z_aload_n E dX5_undo_24 rfl 0 rfl ?_
    refine z_get E 106 cw_lad (C := RX5) (T := TX5) (N := 4) rfl (fun _ h => List.mem_cons_of_mem _ (List.mem_append_left _ (List.mem_append_left _ (List.mem_append_left _ (List.mem_append_left _ (List.mem_append_right _ h)))))) 0 (by decide) (List.mem_of_getElem? (i := 5) (by decide +kernel)) rfl (v := .ref (ad (87 + 0))) rfl dX5_undo_25 ?_
    refine z_callVv E hZ (k_restoreTo l D ad cI cR cS cL mem hq hn (Nat.pos_of_ne_zero (fun z0 => c7 (by rw [hs, z0]; rfl))) hz hs) gX5_undo_X0_restoreTo (n := 1) rfl rfl rfl (by decide +kernel) rfl ⟨Nat.le_of_ble_eq_true rfl, Nat.le_of_ble_eq_true rfl⟩  (C := RX0) rfl 101 cw_hist (As := [.ref (ad (87 + 0))]) (rest := []) rfl (Nat.le_of_ble_eq_true rfl) ⟨Nat.zero_le _, Nat.zero_le _⟩ dX5_undo_28 (fun u hp => ?_)
    rw [hp]
    refine z_gm (fun m1 hm1 => ?_)
    refine z_aload_n E dX5_undo_31 rfl 0 rfl ?_
    refine z_get E 106 cw_lad (C := RX5) (T := TX5) (N := 4) rfl (fun _ h => List.mem_cons_of_mem _ (List.mem_append_left _ (List.mem_append_left _ (List.mem_append_left _ (List.mem_append_left _ (List.mem_append_right _ h)))))) 1 (by decide) (List.mem_of_getElem? (i := 3) (by decide +kernel)) rfl (v := .ref (ad 101)) rfl dX5_undo_32 ?_
    refine z_get E 101 cw_hist (C := RX0) (T := TX0) (N := 3) rfl (fun _ h => List.mem_cons_of_mem _ (List.mem_append_left _ (List.mem_append_left _ (List.mem_append_left _ (List.mem_append_right _ h))))) 2 (by decide) (List.mem_of_getElem? (i := 4) (by decide +kernel)) rfl (v := .int (m1 101 2)) rfl dX5_undo_35 ?_
    exact z_iretX E hr hlocks (m1) rfl (by subst hm1; exact (if_neg c7)) (Nat.zero_le _) (Nat.zero_le _) dX5_undo_38
  · skip
    exact zx_throwS (py := (fun E u => sUndo mem q z = (.inl E, u))) (outy := cw ad cI cR cS) E hZ hl hlocks htb (cls := "java/lang/IllegalStateException") (text := "nothing is saved") (names := ["java/lang/RuntimeException", "java/lang/Exception"]) (ik := 76) (is := 140) (ic := 80) (by decide +kernel) (by decide +kernel) (List.mem_of_getElem? (i := 1) (by decide +kernel)) (List.mem_of_getElem? (i := 2) (by decide +kernel)) hZ.2.2.2.2.2.1 (fun _ h => List.mem_cons_of_mem _ (List.mem_append_right _ h)) (by decide +kernel) (by decide +kernel) dX5_undo_10 dX5_undo_13 dX5_undo_14 dX5_undo_16 dX5_undo_19 (Nat.le_of_ble_eq_true rfl) (Nat.le_of_ble_eq_true rfl) ((hcs _ _ (if_pos c7)).1) ((hcs _ _ (if_pos c7)).2) (mem) (if_pos c7) rfl ((hcs _ _ (if_pos c7)).1) ((hcs _ _ (if_pos c7)).2)
def sLadder (mem : zM) (x g : Int32) : zO := if x < 0 ∨ 4 ≤ x then (.inl "java/lang/IndexOutOfBoundsException", mem) else if g = 0 then (.inr (mem (3 * x.toNatClampNeg) 0), mem) else if g = 1 then (.inr (mem (3 * x.toNatClampNeg) 1), mem) else if g = 2 then (.inr (mem (3 * x.toNatClampNeg) 2), mem) else if g = 3 then (.inr (mem (3 * x.toNatClampNeg) 3), mem) else if g = 4 then (.inr (mem (3 * x.toNatClampNeg) 4), mem) else if g = 5 then (.inr (mem (3 * x.toNatClampNeg) 5), mem) else if g = 6 then (.inr (mem (3 * x.toNatClampNeg) 7), mem) else if g = 7 then (.inr (fLoad (rv mem x.toNatClampNeg)), mem) else if g = 8 then (.inr (fMoment (rv mem x.toNatClampNeg)), mem) else if g = 9 then (.inr (mem (3 * x.toNatClampNeg) 6), mem) else if g = 10 then (.inr (fStands (rv mem x.toNatClampNeg)), mem) else (.inl "java/lang/IllegalArgumentException", mem)
set_option maxHeartbeats 1000000 in
set_option maxRecDepth 100000 in
theorem k_ladder (l : Launch) (D : va_G) (ad : Nat → Nat) (cI cR cS cL : ClassId) (mem : zM) {c0 s0 : Nat} (hl : l.stackTraces = false) (x g : Int32) (hcs : ∀ (E : String) (u : zM), sLadder mem x g = (.inl E, u) → 1 ≤ c0 ∧ 6 ≤ s0) : zXi l yX5_ladder wsX5_ladder ({ frames := 7, cells := c0, slots := s0, locals := 112 }) D (cK cI cR cS cL) [.ref (ad 106), .int x, .int g] (cw ad cI cR cS mem) (fun r u => sLadder mem x g = (.inr r, u)) (cw ad cI cR cS) (fun E u => sLadder mem x g = (.inl E, u)) (cw ad cI cR cS) c0 s0 := by
  refine zMiX.of (cc := cX5_ladder) (maxL := 4) (ret := (some .int)) (by decide +kernel) rfl (lv0 := [(0, .ref (ad 106)), (1, .int x), (2, .int g)]) (Nat.le_of_ble_eq_true rfl) rfl ?_
  intro p e s m args below meth c E hZ hr hlocks htb hnm
  refine z_aload_n E dX5_ladder_0 rfl 0 rfl ?_
  refine z_iload_n E dX5_ladder_1 rfl 1 rfl ?_
  by_cases hL : x < 0 ∨ 4 ≤ x
  · skip
    exact z_callVqX E hZ (k_rigOf_bad l D ad cI cR cS cL mem hl x hL) gX5_ladder_X5_rigOf (n := 1) rfl rfl rfl (by decide +kernel) rfl ⟨(Nat.le_of_ble_eq_true rfl), (Nat.le_of_ble_eq_true rfl)⟩ (C := RX5) rfl 106 cw_lad (As := [.int x]) (rest := []) rfl (Nat.le_of_ble_eq_true rfl) ⟨(hcs _ _ (if_pos hL)).1, (hcs _ _ (if_pos hL)).2⟩ dX5_ladder_2 (fun E0 u q9 ce H locs ls hpx hP hD hS hl1 h1 h2 h3 => zx_out (py := (fun E u => sLadder mem x g = (.inl E, u))) (outy := cw ad cI cR cS) E htb hlocks u (by rw [hpx.1, hpx.2]; exact (if_pos hL)) hP hD hS h1 h2 h3 (hcs _ _ (if_pos hL)).1 (hcs _ _ (if_pos hL)).2) (fun r u hp => hp.elim)
  have hj4 : x.toNatClampNeg < 4 := zcl4 hL
  refine z_callVq E hZ (k_rigOf l D ad cI cR cS cL mem x hL) gX5_ladder_X5_rigOf (n := 1) rfl rfl rfl (by decide +kernel) rfl ⟨(Nat.le_of_ble_eq_true rfl), (Nat.le_of_ble_eq_true rfl)⟩ (C := RX5) rfl 106 cw_lad (As := [.int x]) (rest := []) rfl (Nat.le_of_ble_eq_true rfl) ⟨(Nat.le_of_ble_eq_true rfl), (Nat.le_of_ble_eq_true rfl)⟩ dX5_ladder_2 (fun r u hp => ?_)
  rw [hp.1, hp.2]
  refine z_eq (ws' := cw ad cI cR cS mem) (lv' := [(0, .ref (ad 106)), (1, .int x), (2, .int g)]) (st' := [.ref (ad (3 * x.toNatClampNeg))]) rfl rfl rfl ?_
  refine z_astore_n (lv' := [(3, .ref (ad (3 * x.toNatClampNeg))), (0, .ref (ad 106)), (1, .int x), (2, .int g)]) E dX5_ladder_5 rfl (by decide) rfl ?_
  refine z_iload_n E dX5_ladder_6 rfl 3 rfl ?_
  by_cases s7_0 : g = 0
  · skip
    refine z_tableIn (tgt := 64) (off := 57) E dX5_ladder_7 (by rw [s7_0]; decide) (by rw [s7_0]; decide) (by rw [s7_0]; decide) (by decide) ?_
    refine z_aload_n E dX5_ladder_64 rfl 0 rfl ?_
    refine z_get E (3 * x.toNatClampNeg) (cw_rig (by omega)) (C := RX2) (T := TX2) (N := 10) rfl (fun _ h => List.mem_cons_of_mem _ (List.mem_append_left _ (List.mem_append_left _ (List.mem_append_left _ (List.mem_append_left _ (List.mem_append_right _ h)))))) 0 (by decide) (List.mem_of_getElem? (i := 3) (by decide +kernel)) rfl (v := .int (mem (3 * x.toNatClampNeg) 0)) rfl dX5_ladder_65 ?_
    exact z_iretX E hr hlocks (mem) rfl ((if_neg hL).trans (if_pos s7_0)) (Nat.zero_le _) (Nat.zero_le _) dX5_ladder_68
  by_cases s7_1 : g = 1
  · skip
    refine z_tableIn (tgt := 69) (off := 62) E dX5_ladder_7 (by rw [s7_1]; decide) (by rw [s7_1]; decide) (by rw [s7_1]; decide) (by decide) ?_
    refine z_aload_n E dX5_ladder_69 rfl 0 rfl ?_
    refine z_get E (3 * x.toNatClampNeg) (cw_rig (by omega)) (C := RX2) (T := TX2) (N := 10) rfl (fun _ h => List.mem_cons_of_mem _ (List.mem_append_left _ (List.mem_append_left _ (List.mem_append_left _ (List.mem_append_left _ (List.mem_append_right _ h)))))) 1 (by decide) (List.mem_of_getElem? (i := 4) (by decide +kernel)) rfl (v := .int (mem (3 * x.toNatClampNeg) 1)) rfl dX5_ladder_70 ?_
    exact z_iretX E hr hlocks (mem) rfl ((if_neg hL).trans ((if_neg s7_0).trans (if_pos s7_1))) (Nat.zero_le _) (Nat.zero_le _) dX5_ladder_73
  by_cases s7_2 : g = 2
  · skip
    refine z_tableIn (tgt := 74) (off := 67) E dX5_ladder_7 (by rw [s7_2]; decide) (by rw [s7_2]; decide) (by rw [s7_2]; decide) (by decide) ?_
    refine z_aload_n E dX5_ladder_74 rfl 0 rfl ?_
    refine z_get E (3 * x.toNatClampNeg) (cw_rig (by omega)) (C := RX2) (T := TX2) (N := 10) rfl (fun _ h => List.mem_cons_of_mem _ (List.mem_append_left _ (List.mem_append_left _ (List.mem_append_left _ (List.mem_append_left _ (List.mem_append_right _ h)))))) 2 (by decide) (List.mem_of_getElem? (i := 5) (by decide +kernel)) rfl (v := .int (mem (3 * x.toNatClampNeg) 2)) rfl dX5_ladder_75 ?_
    exact z_iretX E hr hlocks (mem) rfl ((if_neg hL).trans ((if_neg s7_0).trans ((if_neg s7_1).trans (if_pos s7_2)))) (Nat.zero_le _) (Nat.zero_le _) dX5_ladder_78
  by_cases s7_3 : g = 3
  · skip
    refine z_tableIn (tgt := 79) (off := 72) E dX5_ladder_7 (by rw [s7_3]; decide) (by rw [s7_3]; decide) (by rw [s7_3]; decide) (by decide) ?_
    refine z_aload_n E dX5_ladder_79 rfl 0 rfl ?_
    refine z_get E (3 * x.toNatClampNeg) (cw_rig (by omega)) (C := RX2) (T := TX2) (N := 10) rfl (fun _ h => List.mem_cons_of_mem _ (List.mem_append_left _ (List.mem_append_left _ (List.mem_append_left _ (List.mem_append_left _ (List.mem_append_right _ h)))))) 3 (by decide) (List.mem_of_getElem? (i := 6) (by decide +kernel)) rfl (v := .int (mem (3 * x.toNatClampNeg) 3)) rfl dX5_ladder_80 ?_
    exact z_iretX E hr hlocks (mem) rfl ((if_neg hL).trans ((if_neg s7_0).trans ((if_neg s7_1).trans ((if_neg s7_2).trans (if_pos s7_3))))) (Nat.zero_le _) (Nat.zero_le _) dX5_ladder_83
  by_cases s7_4 : g = 4
  · skip
    refine z_tableIn (tgt := 84) (off := 77) E dX5_ladder_7 (by rw [s7_4]; decide) (by rw [s7_4]; decide) (by rw [s7_4]; decide) (by decide) ?_
    refine z_aload_n E dX5_ladder_84 rfl 0 rfl ?_
    refine z_get E (3 * x.toNatClampNeg) (cw_rig (by omega)) (C := RX2) (T := TX2) (N := 10) rfl (fun _ h => List.mem_cons_of_mem _ (List.mem_append_left _ (List.mem_append_left _ (List.mem_append_left _ (List.mem_append_left _ (List.mem_append_right _ h)))))) 4 (by decide) (List.mem_of_getElem? (i := 7) (by decide +kernel)) rfl (v := .int (mem (3 * x.toNatClampNeg) 4)) rfl dX5_ladder_85 ?_
    exact z_iretX E hr hlocks (mem) rfl ((if_neg hL).trans ((if_neg s7_0).trans ((if_neg s7_1).trans ((if_neg s7_2).trans ((if_neg s7_3).trans (if_pos s7_4)))))) (Nat.zero_le _) (Nat.zero_le _) dX5_ladder_88
  by_cases s7_5 : g = 5
  · skip
    refine z_tableIn (tgt := 89) (off := 82) E dX5_ladder_7 (by rw [s7_5]; decide) (by rw [s7_5]; decide) (by rw [s7_5]; decide) (by decide) ?_
    refine z_aload_n E dX5_ladder_89 rfl 0 rfl ?_
    refine z_get E (3 * x.toNatClampNeg) (cw_rig (by omega)) (C := RX2) (T := TX2) (N := 10) rfl (fun _ h => List.mem_cons_of_mem _ (List.mem_append_left _ (List.mem_append_left _ (List.mem_append_left _ (List.mem_append_left _ (List.mem_append_right _ h)))))) 5 (by decide) (List.mem_of_getElem? (i := 8) (by decide +kernel)) rfl (v := .int (mem (3 * x.toNatClampNeg) 5)) rfl dX5_ladder_90 ?_
    exact z_iretX E hr hlocks (mem) rfl ((if_neg hL).trans ((if_neg s7_0).trans ((if_neg s7_1).trans ((if_neg s7_2).trans ((if_neg s7_3).trans ((if_neg s7_4).trans (if_pos s7_5))))))) (Nat.zero_le _) (Nat.zero_le _) dX5_ladder_93
  by_cases s7_6 : g = 6
  · skip
    refine z_tableIn (tgt := 94) (off := 87) E dX5_ladder_7 (by rw [s7_6]; decide) (by rw [s7_6]; decide) (by rw [s7_6]; decide) (by decide) ?_
    refine z_aload_n E dX5_ladder_94 rfl 0 rfl ?_
    refine z_get E (3 * x.toNatClampNeg) (cw_rig (by omega)) (C := RX2) (T := TX2) (N := 10) rfl (fun _ h => List.mem_cons_of_mem _ (List.mem_append_left _ (List.mem_append_left _ (List.mem_append_left _ (List.mem_append_left _ (List.mem_append_right _ h)))))) 7 (by decide) (List.mem_of_getElem? (i := 9) (by decide +kernel)) rfl (v := .int (mem (3 * x.toNatClampNeg) 7)) rfl dX5_ladder_95 ?_
    exact z_iretX E hr hlocks (mem) rfl ((if_neg hL).trans ((if_neg s7_0).trans ((if_neg s7_1).trans ((if_neg s7_2).trans ((if_neg s7_3).trans ((if_neg s7_4).trans ((if_neg s7_5).trans (if_pos s7_6)))))))) (Nat.zero_le _) (Nat.zero_le _) dX5_ladder_98
  by_cases s7_7 : g = 7
  · skip
    refine z_tableIn (tgt := 99) (off := 92) E dX5_ladder_7 (by rw [s7_7]; decide) (by rw [s7_7]; decide) (by rw [s7_7]; decide) (by decide) ?_
    refine z_aload_n E dX5_ladder_99 rfl 0 rfl ?_
    refine z_callVi E hZ (k_load l D ad cI cR cS cL mem (by omega)) gX5_ladder_X2_load (n := 0) rfl rfl rfl (by decide +kernel) rfl ⟨Nat.le_of_ble_eq_true rfl, Nat.le_of_ble_eq_true rfl⟩  (C := RX2) rfl (3 * x.toNatClampNeg) (cw_rig (by omega)) (As := []) (rest := []) rfl (Nat.le_of_ble_eq_true rfl) ⟨Nat.zero_le _, Nat.zero_le _⟩ dX5_ladder_100 (fun r u hp => ?_)
    rw [hp.1, hp.2]
    exact z_iretX E hr hlocks (mem) rfl ((if_neg hL).trans ((if_neg s7_0).trans ((if_neg s7_1).trans ((if_neg s7_2).trans ((if_neg s7_3).trans ((if_neg s7_4).trans ((if_neg s7_5).trans ((if_neg s7_6).trans (if_pos s7_7))))))))) (Nat.zero_le _) (Nat.zero_le _) dX5_ladder_103
  by_cases s7_8 : g = 8
  · skip
    refine z_tableIn (tgt := 104) (off := 97) E dX5_ladder_7 (by rw [s7_8]; decide) (by rw [s7_8]; decide) (by rw [s7_8]; decide) (by decide) ?_
    refine z_aload_n E dX5_ladder_104 rfl 0 rfl ?_
    refine z_callVi E hZ (k_moment l D ad cI cR cS cL mem (by omega)) gX5_ladder_X2_moment (n := 0) rfl rfl rfl (by decide +kernel) rfl ⟨Nat.le_of_ble_eq_true rfl, Nat.le_of_ble_eq_true rfl⟩  (C := RX2) rfl (3 * x.toNatClampNeg) (cw_rig (by omega)) (As := []) (rest := []) rfl (Nat.le_of_ble_eq_true rfl) ⟨Nat.zero_le _, Nat.zero_le _⟩ dX5_ladder_105 (fun r u hp => ?_)
    rw [hp.1, hp.2]
    exact z_iretX E hr hlocks (mem) rfl ((if_neg hL).trans ((if_neg s7_0).trans ((if_neg s7_1).trans ((if_neg s7_2).trans ((if_neg s7_3).trans ((if_neg s7_4).trans ((if_neg s7_5).trans ((if_neg s7_6).trans ((if_neg s7_7).trans (if_pos s7_8)))))))))) (Nat.zero_le _) (Nat.zero_le _) dX5_ladder_108
  by_cases s7_9 : g = 9
  · skip
    refine z_tableIn (tgt := 109) (off := 102) E dX5_ladder_7 (by rw [s7_9]; decide) (by rw [s7_9]; decide) (by rw [s7_9]; decide) (by decide) ?_
    refine z_aload_n E dX5_ladder_109 rfl 0 rfl ?_
    refine z_get E (3 * x.toNatClampNeg) (cw_rig (by omega)) (C := RX2) (T := TX2) (N := 10) rfl (fun _ h => List.mem_cons_of_mem _ (List.mem_append_left _ (List.mem_append_left _ (List.mem_append_left _ (List.mem_append_left _ (List.mem_append_right _ h)))))) 6 (by decide) (List.mem_of_getElem? (i := 10) (by decide +kernel)) rfl (v := .int (mem (3 * x.toNatClampNeg) 6)) rfl dX5_ladder_110 ?_
    exact z_iretX E hr hlocks (mem) rfl ((if_neg hL).trans ((if_neg s7_0).trans ((if_neg s7_1).trans ((if_neg s7_2).trans ((if_neg s7_3).trans ((if_neg s7_4).trans ((if_neg s7_5).trans ((if_neg s7_6).trans ((if_neg s7_7).trans ((if_neg s7_8).trans (if_pos s7_9))))))))))) (Nat.zero_le _) (Nat.zero_le _) dX5_ladder_113
  by_cases s7_10 : g = 10
  · skip
    refine z_tableIn (tgt := 114) (off := 107) E dX5_ladder_7 (by rw [s7_10]; decide) (by rw [s7_10]; decide) (by rw [s7_10]; decide) (by decide) ?_
    refine z_aload_n E dX5_ladder_114 rfl 0 rfl ?_
    refine z_callVi E hZ (k_stands l D ad cI cR cS cL mem (by omega)) gX5_ladder_X2_stands (n := 0) rfl rfl rfl (by decide +kernel) rfl ⟨Nat.le_of_ble_eq_true rfl, Nat.le_of_ble_eq_true rfl⟩  (C := RX2) rfl (3 * x.toNatClampNeg) (cw_rig (by omega)) (As := []) (rest := []) rfl (Nat.le_of_ble_eq_true rfl) ⟨Nat.zero_le _, Nat.zero_le _⟩ dX5_ladder_115 (fun r u hp => ?_)
    rw [hp.1, hp.2]
    refine z_if_eq (tgt := 125) E dX5_ladder_118 (by decide) (fun c118 => ?_) (fun c118 => ?_)
    · skip
      refine z_iconst (v := 0) E dX5_ladder_125 (by decide) ?_
      exact z_iretX E hr hlocks (mem) rfl ((if_neg hL).trans ((if_neg s7_0).trans ((if_neg s7_1).trans ((if_neg s7_2).trans ((if_neg s7_3).trans ((if_neg s7_4).trans ((if_neg s7_5).trans ((if_neg s7_6).trans ((if_neg s7_7).trans ((if_neg s7_8).trans ((if_neg s7_9).trans ((if_pos s7_10).trans (zO_eq c118 rfl))))))))))))) (Nat.zero_le _) (Nat.zero_le _) dX5_ladder_126
    · skip
      refine z_iconst (v := 1) E dX5_ladder_121 (by decide) ?_
      refine z_goto (tgt := 126) E dX5_ladder_122 (by decide) ?_
      exact z_iretX E hr hlocks (mem) rfl ((if_neg hL).trans ((if_neg s7_0).trans ((if_neg s7_1).trans ((if_neg s7_2).trans ((if_neg s7_3).trans ((if_neg s7_4).trans ((if_neg s7_5).trans ((if_neg s7_6).trans ((if_neg s7_7).trans ((if_neg s7_8).trans ((if_neg s7_9).trans ((if_pos s7_10).trans (zO_eq ((fStands_01 _).resolve_left c118) rfl))))))))))))) (Nat.zero_le _) (Nat.zero_le _) dX5_ladder_126
  refine z_tableD (tgt := 127) E dX5_ladder_7 (by have q0 := zne (n := 0) (by decide) s7_0; have q1 := zne (n := 1) (by decide) s7_1; have q2 := zne (n := 2) (by decide) s7_2; have q3 := zne (n := 3) (by decide) s7_3; have q4 := zne (n := 4) (by decide) s7_4; have q5 := zne (n := 5) (by decide) s7_5; have q6 := zne (n := 6) (by decide) s7_6; have q7 := zne (n := 7) (by decide) s7_7; have q8 := zne (n := 8) (by decide) s7_8; have q9 := zne (n := 9) (by decide) s7_9; have q10 := zne (n := 10) (by decide) s7_10; rcases (by omega : (g).toInt < 0 ∨ 10 < (g).toInt) with q | q; exact Or.inl q; exact Or.inr (Or.inl q)) (by decide) ?_
  exact zx_throwS (py := (fun E u => sLadder mem x g = (.inl E, u))) (outy := cw ad cI cR cS) E hZ hl hlocks htb (cls := "java/lang/IllegalArgumentException") (text := "a ladder has the numbers 0 to 10") (names := ["java/lang/RuntimeException", "java/lang/Exception"]) (ik := 118) (is := 157) (ic := 122) (by decide +kernel) (by decide +kernel) (List.mem_of_getElem? (i := 1) (by decide +kernel)) (List.mem_of_getElem? (i := 2) (by decide +kernel)) hZ.2.2.2.2.2.2.1 (fun _ h => List.mem_cons_of_mem _ (List.mem_append_left _ (List.mem_append_right _ h))) (by decide +kernel) (by decide +kernel) dX5_ladder_127 dX5_ladder_130 dX5_ladder_131 dX5_ladder_133 dX5_ladder_136 (Nat.le_of_ble_eq_true rfl) (Nat.le_of_ble_eq_true rfl) ((hcs _ _ ((if_neg hL).trans ((if_neg s7_0).trans ((if_neg s7_1).trans ((if_neg s7_2).trans ((if_neg s7_3).trans ((if_neg s7_4).trans ((if_neg s7_5).trans ((if_neg s7_6).trans ((if_neg s7_7).trans ((if_neg s7_8).trans ((if_neg s7_9).trans (if_neg s7_10))))))))))))).1) ((hcs _ _ ((if_neg hL).trans ((if_neg s7_0).trans ((if_neg s7_1).trans ((if_neg s7_2).trans ((if_neg s7_3).trans ((if_neg s7_4).trans ((if_neg s7_5).trans ((if_neg s7_6).trans ((if_neg s7_7).trans ((if_neg s7_8).trans ((if_neg s7_9).trans (if_neg s7_10))))))))))))).2) (mem) ((if_neg hL).trans ((if_neg s7_0).trans ((if_neg s7_1).trans ((if_neg s7_2).trans ((if_neg s7_3).trans ((if_neg s7_4).trans ((if_neg s7_5).trans ((if_neg s7_6).trans ((if_neg s7_7).trans ((if_neg s7_8).trans ((if_neg s7_9).trans (if_neg s7_10)))))))))))) rfl ((hcs _ _ ((if_neg hL).trans ((if_neg s7_0).trans ((if_neg s7_1).trans ((if_neg s7_2).trans ((if_neg s7_3).trans ((if_neg s7_4).trans ((if_neg s7_5).trans ((if_neg s7_6).trans ((if_neg s7_7).trans ((if_neg s7_8).trans ((if_neg s7_9).trans (if_neg s7_10))))))))))))).1) ((hcs _ _ ((if_neg hL).trans ((if_neg s7_0).trans ((if_neg s7_1).trans ((if_neg s7_2).trans ((if_neg s7_3).trans ((if_neg s7_4).trans ((if_neg s7_5).trans ((if_neg s7_6).trans ((if_neg s7_7).trans ((if_neg s7_8).trans ((if_neg s7_9).trans (if_neg s7_10))))))))))))).2)
def sPerson (mem : zM) (x b g : Int32) : zO := if x < 0 ∨ 4 ≤ x then (.inl "java/lang/IndexOutOfBoundsException", mem) else if fBears (rv mem x.toNatClampNeg) b = 0 then (.inl "java/lang/IndexOutOfBoundsException", mem) else if g = 0 then (.inr (sWeightOf mem x.toNatClampNeg b), mem) else if g = 1 then (.inr (sStepOf mem x.toNatClampNeg b), mem) else (.inl "java/lang/IllegalArgumentException", mem)
set_option maxHeartbeats 1000000 in
set_option maxRecDepth 100000 in
theorem k_person (l : Launch) (D : va_G) (ad : Nat → Nat) (cI cR cS cL : ClassId) (mem : zM) {c0 s0 : Nat} (hl : l.stackTraces = false) (x b g : Int32) (hcs : ∀ (E : String) (u : zM), sPerson mem x b g = (.inl E, u) → 1 ≤ c0 ∧ 6 ≤ s0) : zXi l yX5_person wsX5_person ({ frames := 7, cells := c0, slots := s0, locals := 112 }) D (cK cI cR cS cL) [.ref (ad 106), .int x, .int b, .int g] (cw ad cI cR cS mem) (fun r u => sPerson mem x b g = (.inr r, u)) (cw ad cI cR cS) (fun E u => sPerson mem x b g = (.inl E, u)) (cw ad cI cR cS) c0 s0 := by
  refine zMiX.of (cc := cX5_person) (maxL := 5) (ret := (some .int)) (by decide +kernel) rfl (lv0 := [(0, .ref (ad 106)), (1, .int x), (2, .int b), (3, .int g)]) (Nat.le_of_ble_eq_true rfl) rfl ?_
  intro p e s m args below meth c E hZ hr hlocks htb hnm
  refine z_aload_n E dX5_person_0 rfl 0 rfl ?_
  refine z_iload_n E dX5_person_1 rfl 1 rfl ?_
  by_cases hL : x < 0 ∨ 4 ≤ x
  · skip
    exact z_callVqX E hZ (k_rigOf_bad l D ad cI cR cS cL mem hl x hL) gX5_person_X5_rigOf (n := 1) rfl rfl rfl (by decide +kernel) rfl ⟨(Nat.le_of_ble_eq_true rfl), (Nat.le_of_ble_eq_true rfl)⟩ (C := RX5) rfl 106 cw_lad (As := [.int x]) (rest := []) rfl (Nat.le_of_ble_eq_true rfl) ⟨(hcs _ _ (if_pos hL)).1, (hcs _ _ (if_pos hL)).2⟩ dX5_person_2 (fun E0 u q9 ce H locs ls hpx hP hD hS hl1 h1 h2 h3 => zx_out (py := (fun E u => sPerson mem x b g = (.inl E, u))) (outy := cw ad cI cR cS) E htb hlocks u (by rw [hpx.1, hpx.2]; exact (if_pos hL)) hP hD hS h1 h2 h3 (hcs _ _ (if_pos hL)).1 (hcs _ _ (if_pos hL)).2) (fun r u hp => hp.elim)
  have hj4 : x.toNatClampNeg < 4 := zcl4 hL
  refine z_callVq E hZ (k_rigOf l D ad cI cR cS cL mem x hL) gX5_person_X5_rigOf (n := 1) rfl rfl rfl (by decide +kernel) rfl ⟨(Nat.le_of_ble_eq_true rfl), (Nat.le_of_ble_eq_true rfl)⟩ (C := RX5) rfl 106 cw_lad (As := [.int x]) (rest := []) rfl (Nat.le_of_ble_eq_true rfl) ⟨(Nat.le_of_ble_eq_true rfl), (Nat.le_of_ble_eq_true rfl)⟩ dX5_person_2 (fun r u hp => ?_)
  rw [hp.1, hp.2]
  refine z_eq (ws' := cw ad cI cR cS mem) (lv' := [(0, .ref (ad 106)), (1, .int x), (2, .int b), (3, .int g)]) (st' := [.ref (ad (3 * x.toNatClampNeg))]) rfl rfl rfl ?_
  refine z_astore (lv' := [(4, .ref (ad (3 * x.toNatClampNeg))), (0, .ref (ad 106)), (1, .int x), (2, .int b), (3, .int g)]) E dX5_person_5 (by decide) rfl ?_
  refine z_aload E dX5_person_7 0 rfl ?_
  refine z_iload_n E dX5_person_9 rfl 3 rfl ?_
  by_cases hPe : fBears (rv mem x.toNatClampNeg) b = 0
  · skip
    exact z_callSvX E hZ (k_person_bad l D ad cI cR cS cL mem hl (j := x.toNatClampNeg) (by omega) b hPe) gX5_person_X5_demandPerson (n := 2) rfl rfl rfl (by decide +kernel) rfl ⟨(Nat.le_of_ble_eq_true rfl), (Nat.le_of_ble_eq_true rfl)⟩ (As := [.ref (ad (3 * x.toNatClampNeg)), .int b]) (rest := []) rfl (Nat.le_of_ble_eq_true rfl) ⟨(hcs _ _ ((if_neg hL).trans (if_pos hPe))).1, (hcs _ _ ((if_neg hL).trans (if_pos hPe))).2⟩ dX5_person_10 (fun E0 u q9 ce H locs ls hpx hP hD hS hl1 h1 h2 h3 => zx_out (py := (fun E u => sPerson mem x b g = (.inl E, u))) (outy := cw ad cI cR cS) E htb hlocks u (by rw [hpx.1, hpx.2]; exact ((if_neg hL).trans (if_pos hPe))) hP hD hS h1 h2 h3 (hcs _ _ ((if_neg hL).trans (if_pos hPe))).1 (hcs _ _ ((if_neg hL).trans (if_pos hPe))).2) (fun u hp => hp.elim)
  refine z_callSv E hZ (k_personOk l D ad cI cR cS cL mem (j := x.toNatClampNeg) (by omega) b hPe) gX5_person_X5_demandPerson (n := 2) rfl rfl rfl (by decide +kernel) rfl ⟨(Nat.le_of_ble_eq_true rfl), (Nat.le_of_ble_eq_true rfl)⟩ (As := [.ref (ad (3 * x.toNatClampNeg)), .int b]) (rest := []) rfl (Nat.le_of_ble_eq_true rfl) ⟨(Nat.le_of_ble_eq_true rfl), (Nat.le_of_ble_eq_true rfl)⟩ dX5_person_10 (fun u hp => ?_)
  rw [hp]
  refine z_iload_n E dX5_person_13 rfl 4 rfl ?_
  by_cases s14_0 : g = 0
  · skip
    refine z_lookup (tgt := 40) (off := 26) E dX5_person_14 (by decide) (by rw [s14_0]; decide) (by decide) ?_
    refine z_aload E dX5_person_40 0 rfl ?_
    refine z_iload_n E dX5_person_42 rfl 3 rfl ?_
    refine z_callVi E hZ (k_weightOf l D ad cI cR cS cL mem (by omega) b) gX5_person_X2_weightOf (n := 1) rfl rfl rfl (by decide +kernel) rfl ⟨Nat.le_of_ble_eq_true rfl, Nat.le_of_ble_eq_true rfl⟩  (C := RX2) rfl (3 * x.toNatClampNeg) (cw_rig (by omega)) (As := [.int b]) (rest := []) rfl (Nat.le_of_ble_eq_true rfl) ⟨Nat.zero_le _, Nat.zero_le _⟩ dX5_person_43 (fun r u hp => ?_)
    rw [hp.1, hp.2]
    exact z_iretX E hr hlocks (mem) rfl ((if_neg hL).trans ((if_neg hPe).trans (if_pos s14_0))) (Nat.zero_le _) (Nat.zero_le _) dX5_person_46
  by_cases s14_1 : g = 1
  · skip
    refine z_lookup (tgt := 47) (off := 33) E dX5_person_14 (by decide) (by rw [s14_1]; decide) (by decide) ?_
    refine z_aload E dX5_person_47 0 rfl ?_
    refine z_iload_n E dX5_person_49 rfl 3 rfl ?_
    refine z_callVi E hZ (k_stepOf l D ad cI cR cS cL mem (by omega) b) gX5_person_X2_stepOf (n := 1) rfl rfl rfl (by decide +kernel) rfl ⟨Nat.le_of_ble_eq_true rfl, Nat.le_of_ble_eq_true rfl⟩  (C := RX2) rfl (3 * x.toNatClampNeg) (cw_rig (by omega)) (As := [.int b]) (rest := []) rfl (Nat.le_of_ble_eq_true rfl) ⟨Nat.zero_le _, Nat.zero_le _⟩ dX5_person_50 (fun r u hp => ?_)
    rw [hp.1, hp.2]
    exact z_iretX E hr hlocks (mem) rfl ((if_neg hL).trans ((if_neg hPe).trans ((if_neg s14_0).trans (if_pos s14_1)))) (Nat.zero_le _) (Nat.zero_le _) dX5_person_53
  refine z_lookup (tgt := 54) (off := 40) E dX5_person_14 (by decide) (zlk01 s14_0 s14_1) (by decide) ?_
  exact zx_throwS (py := (fun E u => sPerson mem x b g = (.inl E, u))) (outy := cw ad cI cR cS) E hZ hl hlocks htb (cls := "java/lang/IllegalArgumentException") (text := "a person has the numbers 0 and 1") (names := ["java/lang/RuntimeException", "java/lang/Exception"]) (ik := 118) (is := 166) (ic := 122) (by decide +kernel) (by decide +kernel) (List.mem_of_getElem? (i := 1) (by decide +kernel)) (List.mem_of_getElem? (i := 2) (by decide +kernel)) hZ.2.2.2.2.2.2.2.1 (fun _ h => List.mem_cons_of_mem _ (List.mem_append_left _ (List.mem_append_right _ h))) (by decide +kernel) (by decide +kernel) dX5_person_54 dX5_person_57 dX5_person_58 dX5_person_60 dX5_person_63 (Nat.le_of_ble_eq_true rfl) (Nat.le_of_ble_eq_true rfl) ((hcs _ _ ((if_neg hL).trans ((if_neg hPe).trans ((if_neg s14_0).trans (if_neg s14_1))))).1) ((hcs _ _ ((if_neg hL).trans ((if_neg hPe).trans ((if_neg s14_0).trans (if_neg s14_1))))).2) (mem) ((if_neg hL).trans ((if_neg hPe).trans ((if_neg s14_0).trans (if_neg s14_1)))) rfl ((hcs _ _ ((if_neg hL).trans ((if_neg hPe).trans ((if_neg s14_0).trans (if_neg s14_1))))).1) ((hcs _ _ ((if_neg hL).trans ((if_neg hPe).trans ((if_neg s14_0).trans (if_neg s14_1))))).2)
def sForce (mem : zM) (x g : Int32) : zO := if x < 0 ∨ 4 ≤ x then (.inl "java/lang/IndexOutOfBoundsException", mem) else if g < 0 ∨ 5 < g then (.inl "java/lang/IllegalArgumentException", mem) else if g = 2 then (.inr (fForces (rv mem x.toNatClampNeg)), mem) else if fStands (rv mem x.toNatClampNeg) = 0 then (.inr (-1), mem) else if g = 0 then (.inr (fLeast (rv mem x.toNatClampNeg) + 1000), mem) else if g = 1 then (.inr (fGreat (rv mem x.toNatClampNeg) + 1000), mem) else if g = 3 then (.inr (fNearest (rv mem x.toNatClampNeg) + 1000), mem) else if g = 4 then (.inr (fPush (rv mem x.toNatClampNeg) (fNearest (rv mem x.toNatClampNeg))), mem) else (.inr (fLoad (rv mem x.toNatClampNeg) - fNearest (rv mem x.toNatClampNeg)), mem)
set_option maxHeartbeats 1000000 in
set_option maxRecDepth 100000 in
theorem k_force (l : Launch) (D : va_G) (ad : Nat → Nat) (cI cR cS cL : ClassId) (mem : zM) {c0 s0 : Nat} (hl : l.stackTraces = false) (x g : Int32) (hcs : ∀ (E : String) (u : zM), sForce mem x g = (.inl E, u) → 1 ≤ c0 ∧ 6 ≤ s0) : zXi l yX5_force wsX5_force ({ frames := 7, cells := c0, slots := s0, locals := 112 }) D (cK cI cR cS cL) [.ref (ad 106), .int x, .int g] (cw ad cI cR cS mem) (fun r u => sForce mem x g = (.inr r, u)) (cw ad cI cR cS) (fun E u => sForce mem x g = (.inl E, u)) (cw ad cI cR cS) c0 s0 := by
  refine zMiX.of (cc := cX5_force) (maxL := 4) (ret := (some .int)) (by decide +kernel) rfl (lv0 := [(0, .ref (ad 106)), (1, .int x), (2, .int g)]) (Nat.le_of_ble_eq_true rfl) rfl ?_
  intro p e s m args below meth c E hZ hr hlocks htb hnm
  refine z_aload_n E dX5_force_0 rfl 0 rfl ?_
  refine z_iload_n E dX5_force_1 rfl 1 rfl ?_
  by_cases hL : x < 0 ∨ 4 ≤ x
  · skip
    exact z_callVqX E hZ (k_rigOf_bad l D ad cI cR cS cL mem hl x hL) gX5_force_X5_rigOf (n := 1) rfl rfl rfl (by decide +kernel) rfl ⟨(Nat.le_of_ble_eq_true rfl), (Nat.le_of_ble_eq_true rfl)⟩ (C := RX5) rfl 106 cw_lad (As := [.int x]) (rest := []) rfl (Nat.le_of_ble_eq_true rfl) ⟨(hcs _ _ (if_pos hL)).1, (hcs _ _ (if_pos hL)).2⟩ dX5_force_2 (fun E0 u q9 ce H locs ls hpx hP hD hS hl1 h1 h2 h3 => zx_out (py := (fun E u => sForce mem x g = (.inl E, u))) (outy := cw ad cI cR cS) E htb hlocks u (by rw [hpx.1, hpx.2]; exact (if_pos hL)) hP hD hS h1 h2 h3 (hcs _ _ (if_pos hL)).1 (hcs _ _ (if_pos hL)).2) (fun r u hp => hp.elim)
  have hj4 : x.toNatClampNeg < 4 := zcl4 hL
  refine z_callVq E hZ (k_rigOf l D ad cI cR cS cL mem x hL) gX5_force_X5_rigOf (n := 1) rfl rfl rfl (by decide +kernel) rfl ⟨(Nat.le_of_ble_eq_true rfl), (Nat.le_of_ble_eq_true rfl)⟩ (C := RX5) rfl 106 cw_lad (As := [.int x]) (rest := []) rfl (Nat.le_of_ble_eq_true rfl) ⟨(Nat.le_of_ble_eq_true rfl), (Nat.le_of_ble_eq_true rfl)⟩ dX5_force_2 (fun r u hp => ?_)
  rw [hp.1, hp.2]
  refine z_eq (ws' := cw ad cI cR cS mem) (lv' := [(0, .ref (ad 106)), (1, .int x), (2, .int g)]) (st' := [.ref (ad (3 * x.toNatClampNeg))]) rfl rfl rfl ?_
  refine z_astore_n (lv' := [(3, .ref (ad (3 * x.toNatClampNeg))), (0, .ref (ad 106)), (1, .int x), (2, .int g)]) E dX5_force_5 rfl (by decide) rfl ?_
  refine z_iload_n E dX5_force_6 rfl 3 rfl ?_
  refine z_iconst (v := 0) E dX5_force_7 (by decide) ?_
  refine z_iconst (v := 5) E dX5_force_8 (by decide) ?_
  by_cases hR9 : g < 0 ∨ 5 < g
  · skip
    exact z_callSvX E hZ (k_range_bad l D ad cI cR cS cL mem hl g 0 5 hR9) gX5_force_X5_demandRange (n := 3) rfl rfl rfl (by decide +kernel) rfl ⟨(Nat.le_of_ble_eq_true rfl), (Nat.le_of_ble_eq_true rfl)⟩ (As := [.int g, .int 0, .int 5]) (rest := []) rfl (Nat.le_of_ble_eq_true rfl) ⟨(hcs _ _ ((if_neg hL).trans (if_pos hR9))).1, (hcs _ _ ((if_neg hL).trans (if_pos hR9))).2⟩ dX5_force_9 (fun E0 u q9 ce H locs ls hpx hP hD hS hl1 h1 h2 h3 => zx_out (py := (fun E u => sForce mem x g = (.inl E, u))) (outy := cw ad cI cR cS) E htb hlocks u (by rw [hpx.1, hpx.2]; exact ((if_neg hL).trans (if_pos hR9))) hP hD hS h1 h2 h3 (hcs _ _ ((if_neg hL).trans (if_pos hR9))).1 (hcs _ _ ((if_neg hL).trans (if_pos hR9))).2) (fun u hp => hp.elim)
  refine z_callSv E hZ (k_range l D ad cI cR cS cL mem g 0 5 hR9) gX5_force_X5_demandRange (n := 3) rfl rfl rfl (by decide +kernel) rfl ⟨(Nat.le_of_ble_eq_true rfl), (Nat.le_of_ble_eq_true rfl)⟩ (As := [.int g, .int 0, .int 5]) (rest := []) rfl (Nat.le_of_ble_eq_true rfl) ⟨(Nat.le_of_ble_eq_true rfl), (Nat.le_of_ble_eq_true rfl)⟩ dX5_force_9 (fun u hp => ?_)
  rw [hp]
  refine z_iload_n E dX5_force_12 rfl 3 rfl ?_
  refine z_iconst (v := 2) E dX5_force_13 (by decide) ?_
  refine z_icmp_ne (tgt := 22) E dX5_force_14 (by decide) (fun c14 => ?_) (fun c14 => ?_)
  · skip
    refine z_aload_n E dX5_force_22 rfl 0 rfl ?_
    refine z_callVi E hZ (k_stands l D ad cI cR cS cL mem (by omega)) gX5_force_X2_stands (n := 0) rfl rfl rfl (by decide +kernel) rfl ⟨Nat.le_of_ble_eq_true rfl, Nat.le_of_ble_eq_true rfl⟩  (C := RX2) rfl (3 * x.toNatClampNeg) (cw_rig (by omega)) (As := []) (rest := []) rfl (Nat.le_of_ble_eq_true rfl) ⟨Nat.zero_le _, Nat.zero_le _⟩ dX5_force_23 (fun r u hp => ?_)
    rw [hp.1, hp.2]
    refine z_if_ne (tgt := 31) E dX5_force_26 (by decide) (fun c26 => ?_) (fun c26 => ?_)
    · skip
      refine z_iload_n E dX5_force_31 rfl 3 rfl ?_
      by_cases s32_0 : g = 0
      · skip
        refine z_tableIn (tgt := 68) (off := 36) E dX5_force_32 (by rw [s32_0]; decide) (by rw [s32_0]; decide) (by rw [s32_0]; decide) (by decide) ?_
        refine z_aload_n E dX5_force_68 rfl 0 rfl ?_
        refine z_callVi E hZ (k_leastForce l D ad cI cR cS cL mem (by omega)) gX5_force_X2_leastForce (n := 0) rfl rfl rfl (by decide +kernel) rfl ⟨Nat.le_of_ble_eq_true rfl, Nat.le_of_ble_eq_true rfl⟩  (C := RX2) rfl (3 * x.toNatClampNeg) (cw_rig (by omega)) (As := []) (rest := []) rfl (Nat.le_of_ble_eq_true rfl) ⟨Nat.zero_le _, Nat.zero_le _⟩ dX5_force_69 (fun r u hp => ?_)
        rw [hp.1, hp.2]
        refine z_sipush (v := 1000) E dX5_force_72 (by decide) ?_
        refine z_iadd E dX5_force_75 ?_
        exact z_iretX E hr hlocks (mem) rfl ((if_neg hL).trans ((if_neg hR9).trans ((if_neg c14).trans ((if_neg c26).trans (if_pos s32_0))))) (Nat.zero_le _) (Nat.zero_le _) dX5_force_76
      by_cases s32_1 : g = 1
      · skip
        refine z_tableIn (tgt := 77) (off := 45) E dX5_force_32 (by rw [s32_1]; decide) (by rw [s32_1]; decide) (by rw [s32_1]; decide) (by decide) ?_
        refine z_aload_n E dX5_force_77 rfl 0 rfl ?_
        refine z_callVi E hZ (k_greatestForce l D ad cI cR cS cL mem (by omega)) gX5_force_X2_greatestForce (n := 0) rfl rfl rfl (by decide +kernel) rfl ⟨Nat.le_of_ble_eq_true rfl, Nat.le_of_ble_eq_true rfl⟩  (C := RX2) rfl (3 * x.toNatClampNeg) (cw_rig (by omega)) (As := []) (rest := []) rfl (Nat.le_of_ble_eq_true rfl) ⟨Nat.zero_le _, Nat.zero_le _⟩ dX5_force_78 (fun r u hp => ?_)
        rw [hp.1, hp.2]
        refine z_sipush (v := 1000) E dX5_force_81 (by decide) ?_
        refine z_iadd E dX5_force_84 ?_
        exact z_iretX E hr hlocks (mem) rfl ((if_neg hL).trans ((if_neg hR9).trans ((if_neg c14).trans ((if_neg c26).trans ((if_neg s32_0).trans (if_pos s32_1)))))) (Nat.zero_le _) (Nat.zero_le _) dX5_force_85
      by_cases s32_3 : g = 3
      · skip
        refine z_tableIn (tgt := 86) (off := 54) E dX5_force_32 (by rw [s32_3]; decide) (by rw [s32_3]; decide) (by rw [s32_3]; decide) (by decide) ?_
        refine z_aload_n E dX5_force_86 rfl 0 rfl ?_
        refine z_callVi E hZ (k_nearestForce l D ad cI cR cS cL mem (by omega)) gX5_force_X2_nearestForce (n := 0) rfl rfl rfl (by decide +kernel) rfl ⟨Nat.le_of_ble_eq_true rfl, Nat.le_of_ble_eq_true rfl⟩  (C := RX2) rfl (3 * x.toNatClampNeg) (cw_rig (by omega)) (As := []) (rest := []) rfl (Nat.le_of_ble_eq_true rfl) ⟨Nat.zero_le _, Nat.zero_le _⟩ dX5_force_87 (fun r u hp => ?_)
        rw [hp.1, hp.2]
        refine z_sipush (v := 1000) E dX5_force_90 (by decide) ?_
        refine z_iadd E dX5_force_93 ?_
        exact z_iretX E hr hlocks (mem) rfl ((if_neg hL).trans ((if_neg hR9).trans ((if_neg c14).trans ((if_neg c26).trans ((if_neg s32_0).trans ((if_neg s32_1).trans (if_pos s32_3))))))) (Nat.zero_le _) (Nat.zero_le _) dX5_force_94
      by_cases s32_4 : g = 4
      · skip
        refine z_tableIn (tgt := 95) (off := 63) E dX5_force_32 (by rw [s32_4]; decide) (by rw [s32_4]; decide) (by rw [s32_4]; decide) (by decide) ?_
        refine z_aload_n E dX5_force_95 rfl 0 rfl ?_
        refine z_aload_n E dX5_force_96 rfl 0 rfl ?_
        refine z_callVi E hZ (k_nearestForce l D ad cI cR cS cL mem (by omega)) gX5_force_X2_nearestForce (n := 0) rfl rfl rfl (by decide +kernel) rfl ⟨Nat.le_of_ble_eq_true rfl, Nat.le_of_ble_eq_true rfl⟩  (C := RX2) rfl (3 * x.toNatClampNeg) (cw_rig (by omega)) (As := []) (rest := [.ref (ad (3 * x.toNatClampNeg))]) rfl (Nat.le_of_ble_eq_true rfl) ⟨Nat.zero_le _, Nat.zero_le _⟩ dX5_force_97 (fun r u hp => ?_)
        rw [hp.1, hp.2]
        refine z_callVi E hZ (k_push l D ad cI cR cS cL mem (by omega) (fNearest (rv mem x.toNatClampNeg))) gX5_force_X2_push (n := 1) rfl rfl rfl (by decide +kernel) rfl ⟨Nat.le_of_ble_eq_true rfl, Nat.le_of_ble_eq_true rfl⟩  (C := RX2) rfl (3 * x.toNatClampNeg) (cw_rig (by omega)) (As := [.int (fNearest (rv mem x.toNatClampNeg))]) (rest := []) rfl (Nat.le_of_ble_eq_true rfl) ⟨Nat.zero_le _, Nat.zero_le _⟩ dX5_force_100 (fun r u hp => ?_)
        rw [hp.1, hp.2]
        exact z_iretX E hr hlocks (mem) rfl ((if_neg hL).trans ((if_neg hR9).trans ((if_neg c14).trans ((if_neg c26).trans ((if_neg s32_0).trans ((if_neg s32_1).trans ((if_neg s32_3).trans (if_pos s32_4)))))))) (Nat.zero_le _) (Nat.zero_le _) dX5_force_103
      refine z_tableD (tgt := 104) E dX5_force_32 (by have q0 := zne (n := 0) (by decide) s32_0; have q1 := zne (n := 1) (by decide) s32_1; have q2 := zne (n := 3) (by decide) s32_3; have q3 := zne (n := 4) (by decide) s32_4; rcases (by omega : (g).toInt < 0 ∨ 4 < (g).toInt ∨ (g).toInt = 2) with q | q | q; exact Or.inl q; exact Or.inr (Or.inl q); all_goals (refine Or.inr (Or.inr ⟨by omega, by omega, ?_⟩); rw [q]; decide)) (by decide) ?_
      refine z_aload_n E dX5_force_104 rfl 0 rfl ?_
      refine z_callVi E hZ (k_load l D ad cI cR cS cL mem (by omega)) gX5_force_X2_load (n := 0) rfl rfl rfl (by decide +kernel) rfl ⟨Nat.le_of_ble_eq_true rfl, Nat.le_of_ble_eq_true rfl⟩  (C := RX2) rfl (3 * x.toNatClampNeg) (cw_rig (by omega)) (As := []) (rest := []) rfl (Nat.le_of_ble_eq_true rfl) ⟨Nat.zero_le _, Nat.zero_le _⟩ dX5_force_105 (fun r u hp => ?_)
      rw [hp.1, hp.2]
      refine z_aload_n E dX5_force_108 rfl 0 rfl ?_
      refine z_callVi E hZ (k_nearestForce l D ad cI cR cS cL mem (by omega)) gX5_force_X2_nearestForce (n := 0) rfl rfl rfl (by decide +kernel) rfl ⟨Nat.le_of_ble_eq_true rfl, Nat.le_of_ble_eq_true rfl⟩  (C := RX2) rfl (3 * x.toNatClampNeg) (cw_rig (by omega)) (As := []) (rest := [.int (fLoad (rv mem x.toNatClampNeg))]) rfl (Nat.le_of_ble_eq_true rfl) ⟨Nat.zero_le _, Nat.zero_le _⟩ dX5_force_109 (fun r u hp => ?_)
      rw [hp.1, hp.2]
      refine z_isub E dX5_force_112 ?_
      exact z_iretX E hr hlocks (mem) rfl ((if_neg hL).trans ((if_neg hR9).trans ((if_neg c14).trans ((if_neg c26).trans ((if_neg s32_0).trans ((if_neg s32_1).trans ((if_neg s32_3).trans (if_neg s32_4)))))))) (Nat.zero_le _) (Nat.zero_le _) dX5_force_113
    · skip
      refine z_iconst (v := -1) E dX5_force_29 (by decide) ?_
      exact z_iretX E hr hlocks (mem) rfl ((if_neg hL).trans ((if_neg hR9).trans ((if_neg c14).trans (if_pos c26)))) (Nat.zero_le _) (Nat.zero_le _) dX5_force_30
  · skip
    refine z_aload_n E dX5_force_17 rfl 0 rfl ?_
    refine z_callVi E hZ (k_forces l D ad cI cR cS cL mem (by omega)) gX5_force_X2_forces (n := 0) rfl rfl rfl (by decide +kernel) rfl ⟨Nat.le_of_ble_eq_true rfl, Nat.le_of_ble_eq_true rfl⟩  (C := RX2) rfl (3 * x.toNatClampNeg) (cw_rig (by omega)) (As := []) (rest := []) rfl (Nat.le_of_ble_eq_true rfl) ⟨Nat.zero_le _, Nat.zero_le _⟩ dX5_force_18 (fun r u hp => ?_)
    rw [hp.1, hp.2]
    exact z_iretX E hr hlocks (mem) rfl ((if_neg hL).trans ((if_neg hR9).trans (if_pos c14))) (Nat.zero_le _) (Nat.zero_le _) dX5_force_21
def sHeld (mem : zM) (x g : Int32) : zO := if x < 0 ∨ 4 ≤ x then (.inl "java/lang/IndexOutOfBoundsException", mem) else if g < -1000 ∨ 1000 < g then (.inl "java/lang/IllegalArgumentException", mem) else (.inr (fWGW (rv mem x.toNatClampNeg) g), mem)
set_option maxHeartbeats 1000000 in
set_option maxRecDepth 100000 in
theorem k_held (l : Launch) (D : va_G) (ad : Nat → Nat) (cI cR cS cL : ClassId) (mem : zM) {c0 s0 : Nat} (hl : l.stackTraces = false) (x g : Int32) (hcs : ∀ (E : String) (u : zM), sHeld mem x g = (.inl E, u) → 1 ≤ c0 ∧ 6 ≤ s0) : zXi l yX5_held wsX5_held ({ frames := 7, cells := c0, slots := s0, locals := 112 }) D (cK cI cR cS cL) [.ref (ad 106), .int x, .int g] (cw ad cI cR cS mem) (fun r u => sHeld mem x g = (.inr r, u)) (cw ad cI cR cS) (fun E u => sHeld mem x g = (.inl E, u)) (cw ad cI cR cS) c0 s0 := by
  refine zMiX.of (cc := cX5_held) (maxL := 4) (ret := (some .int)) (by decide +kernel) rfl (lv0 := [(0, .ref (ad 106)), (1, .int x), (2, .int g)]) (Nat.le_of_ble_eq_true rfl) rfl ?_
  intro p e s m args below meth c E hZ hr hlocks htb hnm
  refine z_aload_n E dX5_held_0 rfl 0 rfl ?_
  refine z_iload_n E dX5_held_1 rfl 1 rfl ?_
  by_cases hL : x < 0 ∨ 4 ≤ x
  · skip
    exact z_callVqX E hZ (k_rigOf_bad l D ad cI cR cS cL mem hl x hL) gX5_held_X5_rigOf (n := 1) rfl rfl rfl (by decide +kernel) rfl ⟨(Nat.le_of_ble_eq_true rfl), (Nat.le_of_ble_eq_true rfl)⟩ (C := RX5) rfl 106 cw_lad (As := [.int x]) (rest := []) rfl (Nat.le_of_ble_eq_true rfl) ⟨(hcs _ _ (if_pos hL)).1, (hcs _ _ (if_pos hL)).2⟩ dX5_held_2 (fun E0 u q9 ce H locs ls hpx hP hD hS hl1 h1 h2 h3 => zx_out (py := (fun E u => sHeld mem x g = (.inl E, u))) (outy := cw ad cI cR cS) E htb hlocks u (by rw [hpx.1, hpx.2]; exact (if_pos hL)) hP hD hS h1 h2 h3 (hcs _ _ (if_pos hL)).1 (hcs _ _ (if_pos hL)).2) (fun r u hp => hp.elim)
  have hj4 : x.toNatClampNeg < 4 := zcl4 hL
  refine z_callVq E hZ (k_rigOf l D ad cI cR cS cL mem x hL) gX5_held_X5_rigOf (n := 1) rfl rfl rfl (by decide +kernel) rfl ⟨(Nat.le_of_ble_eq_true rfl), (Nat.le_of_ble_eq_true rfl)⟩ (C := RX5) rfl 106 cw_lad (As := [.int x]) (rest := []) rfl (Nat.le_of_ble_eq_true rfl) ⟨(Nat.le_of_ble_eq_true rfl), (Nat.le_of_ble_eq_true rfl)⟩ dX5_held_2 (fun r u hp => ?_)
  rw [hp.1, hp.2]
  refine z_eq (ws' := cw ad cI cR cS mem) (lv' := [(0, .ref (ad 106)), (1, .int x), (2, .int g)]) (st' := [.ref (ad (3 * x.toNatClampNeg))]) rfl rfl rfl ?_
  refine z_astore_n (lv' := [(3, .ref (ad (3 * x.toNatClampNeg))), (0, .ref (ad 106)), (1, .int x), (2, .int g)]) E dX5_held_5 rfl (by decide) rfl ?_
  refine z_iload_n E dX5_held_6 rfl 3 rfl ?_
  refine z_sipush (v := -1000) E dX5_held_7 (by decide) ?_
  refine z_sipush (v := 1000) E dX5_held_10 (by decide) ?_
  by_cases hR13 : g < -1000 ∨ 1000 < g
  · skip
    exact z_callSvX E hZ (k_range_bad l D ad cI cR cS cL mem hl g (-1000) 1000 hR13) gX5_held_X5_demandRange (n := 3) rfl rfl rfl (by decide +kernel) rfl ⟨(Nat.le_of_ble_eq_true rfl), (Nat.le_of_ble_eq_true rfl)⟩ (As := [.int g, .int (-1000), .int 1000]) (rest := []) rfl (Nat.le_of_ble_eq_true rfl) ⟨(hcs _ _ ((if_neg hL).trans (if_pos hR13))).1, (hcs _ _ ((if_neg hL).trans (if_pos hR13))).2⟩ dX5_held_13 (fun E0 u q9 ce H locs ls hpx hP hD hS hl1 h1 h2 h3 => zx_out (py := (fun E u => sHeld mem x g = (.inl E, u))) (outy := cw ad cI cR cS) E htb hlocks u (by rw [hpx.1, hpx.2]; exact ((if_neg hL).trans (if_pos hR13))) hP hD hS h1 h2 h3 (hcs _ _ ((if_neg hL).trans (if_pos hR13))).1 (hcs _ _ ((if_neg hL).trans (if_pos hR13))).2) (fun u hp => hp.elim)
  refine z_callSv E hZ (k_range l D ad cI cR cS cL mem g (-1000) 1000 hR13) gX5_held_X5_demandRange (n := 3) rfl rfl rfl (by decide +kernel) rfl ⟨(Nat.le_of_ble_eq_true rfl), (Nat.le_of_ble_eq_true rfl)⟩ (As := [.int g, .int (-1000), .int 1000]) (rest := []) rfl (Nat.le_of_ble_eq_true rfl) ⟨(Nat.le_of_ble_eq_true rfl), (Nat.le_of_ble_eq_true rfl)⟩ dX5_held_13 (fun u hp => ?_)
  rw [hp]
  refine z_aload_n E dX5_held_16 rfl 0 rfl ?_
  refine z_iload_n E dX5_held_17 rfl 3 rfl ?_
  refine z_callVi E hZ (k_whatGivesWay l D ad cI cR cS cL mem (by omega) g) gX5_held_X2_whatGivesWay (n := 1) rfl rfl rfl (by decide +kernel) rfl ⟨Nat.le_of_ble_eq_true rfl, Nat.le_of_ble_eq_true rfl⟩  (C := RX2) rfl (3 * x.toNatClampNeg) (cw_rig (by omega)) (As := [.int g]) (rest := []) rfl (Nat.le_of_ble_eq_true rfl) ⟨Nat.zero_le _, Nat.zero_le _⟩ dX5_held_18 (fun r u hp => ?_)
  rw [hp.1, hp.2]
  exact z_iretX E hr hlocks (mem) rfl ((if_neg hL).trans (if_neg hR13)) (Nat.zero_le _) (Nat.zero_le _) dX5_held_21
def sCount (mem : zM) (x : Int32) : zO := if x = 0 then (.inr (fStanding mem 0), mem) else if x = 1 then (.inr (fPeople mem 0), mem) else if x = 2 then (.inr (fFalls mem 0), mem) else if x = 3 then (.inr (mem 87 1), mem) else if x = 4 then (.inr (mem 87 2), mem) else if x = 5 then (.inr (mem 101 2), mem) else (.inl "java/lang/IllegalArgumentException", mem)
set_option maxHeartbeats 1000000 in
set_option maxRecDepth 100000 in
theorem k_count (l : Launch) (D : va_G) (ad : Nat → Nat) (cI cR cS cL : ClassId) (mem : zM) {c0 s0 : Nat} (hl : l.stackTraces = false) (x : Int32) (hcs : ∀ (E : String) (u : zM), sCount mem x = (.inl E, u) → 1 ≤ c0 ∧ 6 ≤ s0) : zXi l yX5_count wsX5_count ({ frames := 6, cells := c0, slots := s0, locals := 106 }) D (cK cI cR cS cL) [.ref (ad 106), .int x] (cw ad cI cR cS mem) (fun r u => sCount mem x = (.inr r, u)) (cw ad cI cR cS) (fun E u => sCount mem x = (.inl E, u)) (cw ad cI cR cS) c0 s0 := by
  refine zMiX.of (cc := cX5_count) (maxL := 2) (ret := (some .int)) (by decide +kernel) rfl (lv0 := [(0, .ref (ad 106)), (1, .int x)]) (Nat.le_of_ble_eq_true rfl) rfl ?_
  intro p e s m args below meth c E hZ hr hlocks htb hnm
  refine z_iload_n E dX5_count_0 rfl 1 rfl ?_
  by_cases s1_0 : x = 0
  · skip
    refine z_tableIn (tgt := 40) (off := 39) E dX5_count_1 (by rw [s1_0]; decide) (by rw [s1_0]; decide) (by rw [s1_0]; decide) (by decide) ?_
    refine z_aload_n E dX5_count_40 rfl 0 rfl ?_
    refine z_get E 106 cw_lad (C := RX5) (T := TX5) (N := 4) rfl (fun _ h => List.mem_cons_of_mem _ (List.mem_append_left _ (List.mem_append_left _ (List.mem_append_left _ (List.mem_append_left _ (List.mem_append_right _ h)))))) 0 (by decide) (List.mem_of_getElem? (i := 3) (by decide +kernel)) rfl (v := .ref (ad (87 + 0))) rfl dX5_count_41 ?_
    refine z_callVi E hZ (k_standing l D ad cI cR cS cL mem (by omega)) gX5_count_X3_standing (n := 0) rfl rfl rfl (by decide +kernel) rfl ⟨Nat.le_of_ble_eq_true rfl, Nat.le_of_ble_eq_true rfl⟩  (C := RX3) rfl (87 + 0) (cw_site (by omega)) (As := []) (rest := []) rfl (Nat.le_of_ble_eq_true rfl) ⟨Nat.zero_le _, Nat.zero_le _⟩ dX5_count_44 (fun r u hp => ?_)
    rw [hp.1, hp.2]
    exact z_iretX E hr hlocks (mem) rfl (if_pos s1_0) (Nat.zero_le _) (Nat.zero_le _) dX5_count_47
  by_cases s1_1 : x = 1
  · skip
    refine z_tableIn (tgt := 48) (off := 47) E dX5_count_1 (by rw [s1_1]; decide) (by rw [s1_1]; decide) (by rw [s1_1]; decide) (by decide) ?_
    refine z_aload_n E dX5_count_48 rfl 0 rfl ?_
    refine z_get E 106 cw_lad (C := RX5) (T := TX5) (N := 4) rfl (fun _ h => List.mem_cons_of_mem _ (List.mem_append_left _ (List.mem_append_left _ (List.mem_append_left _ (List.mem_append_left _ (List.mem_append_right _ h)))))) 0 (by decide) (List.mem_of_getElem? (i := 3) (by decide +kernel)) rfl (v := .ref (ad (87 + 0))) rfl dX5_count_49 ?_
    refine z_callVi E hZ (k_people l D ad cI cR cS cL mem (by omega)) gX5_count_X3_people (n := 0) rfl rfl rfl (by decide +kernel) rfl ⟨Nat.le_of_ble_eq_true rfl, Nat.le_of_ble_eq_true rfl⟩  (C := RX3) rfl (87 + 0) (cw_site (by omega)) (As := []) (rest := []) rfl (Nat.le_of_ble_eq_true rfl) ⟨Nat.zero_le _, Nat.zero_le _⟩ dX5_count_52 (fun r u hp => ?_)
    rw [hp.1, hp.2]
    exact z_iretX E hr hlocks (mem) rfl ((if_neg s1_0).trans (if_pos s1_1)) (Nat.zero_le _) (Nat.zero_le _) dX5_count_55
  by_cases s1_2 : x = 2
  · skip
    refine z_tableIn (tgt := 56) (off := 55) E dX5_count_1 (by rw [s1_2]; decide) (by rw [s1_2]; decide) (by rw [s1_2]; decide) (by decide) ?_
    refine z_aload_n E dX5_count_56 rfl 0 rfl ?_
    refine z_get E 106 cw_lad (C := RX5) (T := TX5) (N := 4) rfl (fun _ h => List.mem_cons_of_mem _ (List.mem_append_left _ (List.mem_append_left _ (List.mem_append_left _ (List.mem_append_left _ (List.mem_append_right _ h)))))) 0 (by decide) (List.mem_of_getElem? (i := 3) (by decide +kernel)) rfl (v := .ref (ad (87 + 0))) rfl dX5_count_57 ?_
    refine z_callVi E hZ (k_falls l D ad cI cR cS cL mem (by omega)) gX5_count_X3_falls (n := 0) rfl rfl rfl (by decide +kernel) rfl ⟨Nat.le_of_ble_eq_true rfl, Nat.le_of_ble_eq_true rfl⟩  (C := RX3) rfl (87 + 0) (cw_site (by omega)) (As := []) (rest := []) rfl (Nat.le_of_ble_eq_true rfl) ⟨Nat.zero_le _, Nat.zero_le _⟩ dX5_count_60 (fun r u hp => ?_)
    rw [hp.1, hp.2]
    exact z_iretX E hr hlocks (mem) rfl ((if_neg s1_0).trans ((if_neg s1_1).trans (if_pos s1_2))) (Nat.zero_le _) (Nat.zero_le _) dX5_count_63
  by_cases s1_3 : x = 3
  · skip
    refine z_tableIn (tgt := 64) (off := 63) E dX5_count_1 (by rw [s1_3]; decide) (by rw [s1_3]; decide) (by rw [s1_3]; decide) (by decide) ?_
    refine z_aload_n E dX5_count_64 rfl 0 rfl ?_
    refine z_get E 106 cw_lad (C := RX5) (T := TX5) (N := 4) rfl (fun _ h => List.mem_cons_of_mem _ (List.mem_append_left _ (List.mem_append_left _ (List.mem_append_left _ (List.mem_append_left _ (List.mem_append_right _ h)))))) 0 (by decide) (List.mem_of_getElem? (i := 3) (by decide +kernel)) rfl (v := .ref (ad (87 + 0))) rfl dX5_count_65 ?_
    refine z_get E (87 + 0) (cw_site (by omega)) (C := RX3) (T := TX3) (N := 3) rfl (fun _ h => List.mem_cons_of_mem _ (List.mem_append_left _ (List.mem_append_left _ (List.mem_append_left _ (List.mem_append_right _ h))))) 1 (by decide) (List.mem_of_getElem? (i := 4) (by decide +kernel)) rfl (v := .int (mem (87 + 0) 1)) rfl dX5_count_68 ?_
    exact z_iretX E hr hlocks (mem) rfl ((if_neg s1_0).trans ((if_neg s1_1).trans ((if_neg s1_2).trans (if_pos s1_3)))) (Nat.zero_le _) (Nat.zero_le _) dX5_count_71
  by_cases s1_4 : x = 4
  · skip
    refine z_tableIn (tgt := 72) (off := 71) E dX5_count_1 (by rw [s1_4]; decide) (by rw [s1_4]; decide) (by rw [s1_4]; decide) (by decide) ?_
    refine z_aload_n E dX5_count_72 rfl 0 rfl ?_
    refine z_get E 106 cw_lad (C := RX5) (T := TX5) (N := 4) rfl (fun _ h => List.mem_cons_of_mem _ (List.mem_append_left _ (List.mem_append_left _ (List.mem_append_left _ (List.mem_append_left _ (List.mem_append_right _ h)))))) 0 (by decide) (List.mem_of_getElem? (i := 3) (by decide +kernel)) rfl (v := .ref (ad (87 + 0))) rfl dX5_count_73 ?_
    refine z_get E (87 + 0) (cw_site (by omega)) (C := RX3) (T := TX3) (N := 3) rfl (fun _ h => List.mem_cons_of_mem _ (List.mem_append_left _ (List.mem_append_left _ (List.mem_append_left _ (List.mem_append_right _ h))))) 2 (by decide) (List.mem_of_getElem? (i := 5) (by decide +kernel)) rfl (v := .int (mem (87 + 0) 2)) rfl dX5_count_76 ?_
    exact z_iretX E hr hlocks (mem) rfl ((if_neg s1_0).trans ((if_neg s1_1).trans ((if_neg s1_2).trans ((if_neg s1_3).trans (if_pos s1_4))))) (Nat.zero_le _) (Nat.zero_le _) dX5_count_79
  by_cases s1_5 : x = 5
  · skip
    refine z_tableIn (tgt := 80) (off := 79) E dX5_count_1 (by rw [s1_5]; decide) (by rw [s1_5]; decide) (by rw [s1_5]; decide) (by decide) ?_
    refine z_aload_n E dX5_count_80 rfl 0 rfl ?_
    refine z_get E 106 cw_lad (C := RX5) (T := TX5) (N := 4) rfl (fun _ h => List.mem_cons_of_mem _ (List.mem_append_left _ (List.mem_append_left _ (List.mem_append_left _ (List.mem_append_left _ (List.mem_append_right _ h)))))) 1 (by decide) (List.mem_of_getElem? (i := 6) (by decide +kernel)) rfl (v := .ref (ad 101)) rfl dX5_count_81 ?_
    refine z_get E 101 cw_hist (C := RX0) (T := TX0) (N := 3) rfl (fun _ h => List.mem_cons_of_mem _ (List.mem_append_left _ (List.mem_append_left _ (List.mem_append_right _ h)))) 2 (by decide) (List.mem_of_getElem? (i := 7) (by decide +kernel)) rfl (v := .int (mem 101 2)) rfl dX5_count_84 ?_
    exact z_iretX E hr hlocks (mem) rfl ((if_neg s1_0).trans ((if_neg s1_1).trans ((if_neg s1_2).trans ((if_neg s1_3).trans ((if_neg s1_4).trans (if_pos s1_5)))))) (Nat.zero_le _) (Nat.zero_le _) dX5_count_87
  refine z_tableD (tgt := 88) E dX5_count_1 (by have q0 := zne (n := 0) (by decide) s1_0; have q1 := zne (n := 1) (by decide) s1_1; have q2 := zne (n := 2) (by decide) s1_2; have q3 := zne (n := 3) (by decide) s1_3; have q4 := zne (n := 4) (by decide) s1_4; have q5 := zne (n := 5) (by decide) s1_5; rcases (by omega : (x).toInt < 0 ∨ 5 < (x).toInt) with q | q; exact Or.inl q; exact Or.inr (Or.inl q)) (by decide) ?_
  exact zx_throwS (py := (fun E u => sCount mem x = (.inl E, u))) (outy := cw ad cI cR cS) E hZ hl hlocks htb (cls := "java/lang/IllegalArgumentException") (text := "there are the counts 0 to 5") (names := ["java/lang/RuntimeException", "java/lang/Exception"]) (ik := 118) (is := 199) (ic := 122) (by decide +kernel) (by decide +kernel) (List.mem_of_getElem? (i := 1) (by decide +kernel)) (List.mem_of_getElem? (i := 2) (by decide +kernel)) hZ.2.2.2.2.2.2.2.2.1 (fun _ h => List.mem_cons_of_mem _ (List.mem_append_right _ h)) (by decide +kernel) (by decide +kernel) dX5_count_88 dX5_count_91 dX5_count_92 dX5_count_94 dX5_count_97 (Nat.le_of_ble_eq_true rfl) (Nat.le_of_ble_eq_true rfl) ((hcs _ _ ((if_neg s1_0).trans ((if_neg s1_1).trans ((if_neg s1_2).trans ((if_neg s1_3).trans ((if_neg s1_4).trans (if_neg s1_5))))))).1) ((hcs _ _ ((if_neg s1_0).trans ((if_neg s1_1).trans ((if_neg s1_2).trans ((if_neg s1_3).trans ((if_neg s1_4).trans (if_neg s1_5))))))).2) (mem) ((if_neg s1_0).trans ((if_neg s1_1).trans ((if_neg s1_2).trans ((if_neg s1_3).trans ((if_neg s1_4).trans (if_neg s1_5)))))) rfl ((hcs _ _ ((if_neg s1_0).trans ((if_neg s1_1).trans ((if_neg s1_2).trans ((if_neg s1_3).trans ((if_neg s1_4).trans (if_neg s1_5))))))).1) ((hcs _ _ ((if_neg s1_0).trans ((if_neg s1_1).trans ((if_neg s1_2).trans ((if_neg s1_3).trans ((if_neg s1_4).trans (if_neg s1_5))))))).2)
