/-! playing -/
/-- what a part does: its row is the reader's -/
def fPPj (mem : zM) (j : Nat) : Int32 × zM := if mem 105 4 = 111 then (if fFull (rv mem j) = 0 then (1, sFN (sAdd mem j (mem 105 5)) 0 j) else (0, mem)) else if mem 105 4 = 114 then (1, sFN (mset mem (3 * j) 5 (mem 105 5)) 0 j) else if mem 105 4 = 117 then (if mem (3 * j) 7 = 0 then (0, mem) else (1, (sWalk mem j 0 (mem 105 5).toNatClampNeg (mem (3 * j + 2) 0).toNatClampNeg).2)) else if mem (3 * j) 7 = 0 then (0, mem) else (1, sFN (sRemove mem j (mem (3 * j) 7 - 1)) 0 j)
theorem zlk3 {x : Int32} (h0 : ¬ x = 111) (h1 : ¬ x = 114) (h2 : ¬ x = 117) : Op.lookupswitch.offset [(111, 60), (114, 80), (117, 35)] 91 x.toInt = 91 := by
  have q0 := zne (n := 111) (by decide) h0
  have q1 := zne (n := 114) (by decide) h1
  have q2 := zne (n := 117) (by decide) h2
  simp [Op.lookupswitch.offset, q0, q1, q2, Ne.symm q0, Ne.symm q1, Ne.symm q2]
set_option maxHeartbeats 1000000 in
set_option maxRecDepth 100000 in
theorem k_playPart (l : Launch) (D : va_G) (ad : Nat → Nat) (cI cR cS cL : ClassId) (mem : zM) {j : Nat} (hj : j < 4) (hr3 : mem 105 3 = nI j) (hr5 : mem 105 4 = 117 → ∃ b, b ≤ 10 ∧ mem 105 5 = nI b) (h3 : ∀ i, i < 4 → ∃ a, a ≤ 3 ∧ mem (3 * i) 7 = nI a) (hA : ∀ i, i < 4 → ∀ t, t < 3 → ∃ a, a ≤ 10 ∧ mem (3 * i + 2) t = nI a) : zMi l yX5_playPart wsX5_playPart ({ frames := 7, cells := 0, slots := 0, locals := 111 }) D (cK cI cR cS cL) [.ref (ad 106), .ref (ad 105)] (cw ad cI cR cS mem) (fun r u => fPPj mem j = (r, u)) (cw ad cI cR cS) 0 0 := by
  refine zMiM.of (cc := cX5_playPart) (maxL := 3) (ret := (some .boolean)) (by decide +kernel) rfl (lv0 := [(0, .ref (ad 106)), (1, .ref (ad 105))]) (Nat.le_of_ble_eq_true rfl) rfl ?_
  intro p e s m args below meth c E hZ hr hlocks hnm
  refine z_aload_n E dX5_playPart_0 rfl 0 rfl ?_
  refine z_aload_n E dX5_playPart_1 rfl 1 rfl ?_
  refine z_get E 105 cw_read (C := RX1) (T := TX1) (N := 6) rfl (fun _ h => List.mem_cons_of_mem _ (List.mem_append_left _ (List.mem_append_left _ (List.mem_append_left _ (List.mem_append_left _ (List.mem_append_right _ h)))))) 3 (by decide) (List.mem_of_getElem? (i := 1) (by decide +kernel)) rfl (v := .int (nI j)) (congrArg (fun z : Int32 => some (Value.int z)) hr3) dX5_playPart_2 ?_
  have hj4 : (nI j).toNatClampNeg < 4 := zcl4 (zk4 hj)
  refine z_callVq E hZ (k_rigOf l D ad cI cR cS cL mem (nI j) (zk4 hj)) gX5_playPart_X5_rigOf (n := 1) rfl rfl rfl (by decide +kernel) rfl ⟨(Nat.le_of_ble_eq_true rfl), (Nat.le_of_ble_eq_true rfl)⟩ (C := RX5) rfl 106 cw_lad (As := [.int (nI j)]) (rest := []) rfl (Nat.le_of_ble_eq_true rfl) ⟨(Nat.le_of_ble_eq_true rfl), (Nat.le_of_ble_eq_true rfl)⟩ dX5_playPart_5 (fun r u hp => ?_)
  rw [hp.1, hp.2]
  refine z_eq (ws' := cw ad cI cR cS mem) (lv' := [(0, .ref (ad 106)), (1, .ref (ad 105))]) (st' := [.ref (ad (3 * j))]) rfl rfl (by rw [nI_clamp (by omega)]; rfl) ?_
  refine z_astore_n (lv' := [(2, .ref (ad (3 * j))), (0, .ref (ad 106)), (1, .ref (ad 105))]) E dX5_playPart_8 rfl (by decide) rfl ?_
  refine z_aload_n E dX5_playPart_9 rfl 2 rfl ?_
  refine z_get E 105 cw_read (C := RX1) (T := TX1) (N := 6) rfl (fun _ h => List.mem_cons_of_mem _ (List.mem_append_left _ (List.mem_append_left _ (List.mem_append_left _ (List.mem_append_left _ (List.mem_append_right _ h)))))) 4 (by decide) (List.mem_of_getElem? (i := 2) (by decide +kernel)) rfl (v := .int (mem 105 4)) rfl dX5_playPart_10 ?_
  by_cases s13_111 : mem 105 4 = 111
  · skip
    refine z_lookup (tgt := 73) (off := 60) E dX5_playPart_13 (by decide) (by rw [s13_111]; decide) (by decide) ?_
    refine z_aload_n E dX5_playPart_73 rfl 0 rfl ?_
    refine z_callVi E hZ (k_isFull l D ad cI cR cS cL mem (by omega)) gX5_playPart_X2_isFull (n := 0) rfl rfl rfl (by decide +kernel) rfl ⟨Nat.le_of_ble_eq_true rfl, Nat.le_of_ble_eq_true rfl⟩  (C := RX2) rfl (3 * j) (cw_rig (by omega)) (As := []) (rest := []) rfl (Nat.le_of_ble_eq_true rfl) ⟨Nat.le_of_ble_eq_true rfl, Nat.le_of_ble_eq_true rfl⟩ dX5_playPart_74 (fun r u hp => ?_)
    rw [hp.1, hp.2]
    refine z_if_eq (tgt := 82) E dX5_playPart_77 (by decide) (fun c77 => ?_) (fun c77 => ?_)
    · skip
      refine z_aload_n E dX5_playPart_82 rfl 0 rfl ?_
      refine z_aload_n E dX5_playPart_83 rfl 2 rfl ?_
      refine z_get E 105 cw_read (C := RX1) (T := TX1) (N := 6) rfl (fun _ h => List.mem_cons_of_mem _ (List.mem_append_left _ (List.mem_append_left _ (List.mem_append_left _ (List.mem_append_left _ (List.mem_append_right _ h)))))) 5 (by decide) (List.mem_of_getElem? (i := 5) (by decide +kernel)) rfl (v := .int (mem 105 5)) rfl dX5_playPart_84 ?_
      refine z_callVv E hZ (k_add l D ad cI cR cS cL mem (by omega) (mem 105 5)) gX5_playPart_X2_add (n := 1) rfl rfl rfl (by decide +kernel) rfl ⟨Nat.le_of_ble_eq_true rfl, Nat.le_of_ble_eq_true rfl⟩  (C := RX2) rfl (3 * j) (cw_rig (by omega)) (As := [.int (mem 105 5)]) (rest := []) rfl (Nat.le_of_ble_eq_true rfl) ⟨Nat.le_of_ble_eq_true rfl, Nat.le_of_ble_eq_true rfl⟩ dX5_playPart_87 (fun u hp => ?_)
      rw [hp]
      refine z_gm (fun m1 hm1 => ?_)
      refine z_goto (tgt := 123) E dX5_playPart_90 (by decide) ?_
      refine z_aload_n E dX5_playPart_123 rfl 1 rfl ?_
      refine z_get E 106 cw_lad (C := RX5) (T := TX5) (N := 4) rfl (fun _ h => List.mem_cons_of_mem _ (List.mem_append_left _ (List.mem_append_left _ (List.mem_append_right _ h)))) 0 (by decide) (List.mem_of_getElem? (i := 4) (by decide +kernel)) rfl (v := .ref (ad (87 + 0))) rfl dX5_playPart_124 ?_
      refine z_aload_n E dX5_playPart_127 rfl 0 rfl ?_
      refine z_callVi E hZ (k_fallsNow l D ad cI cR cS cL m1 (by omega) (by omega)) gX5_playPart_X3_fallsNow (n := 1) rfl rfl rfl (by decide +kernel) rfl ⟨Nat.le_of_ble_eq_true rfl, Nat.le_of_ble_eq_true rfl⟩  (C := RX3) rfl (87 + 0) (cw_site (by omega)) (As := [.ref (ad (3 * j))]) (rest := []) rfl (Nat.le_of_ble_eq_true rfl) ⟨Nat.le_of_ble_eq_true rfl, Nat.le_of_ble_eq_true rfl⟩ dX5_playPart_128 (fun r u hp => ?_)
      rw [hp.1, hp.2]
      refine z_gm (fun m2 hm2 => ?_)
      refine z_pop E dX5_playPart_131 rfl ?_
      refine z_iconst (v := 1) E dX5_playPart_132 (by decide) ?_
      exact z_izretM E hr hlocks (m2) rfl rfl (by subst hm1; subst hm2; exact ((if_pos s13_111).trans (if_pos c77))) (Nat.le_of_ble_eq_true rfl) (Nat.le_of_ble_eq_true rfl) dX5_playPart_133
    · skip
      refine z_iconst (v := 0) E dX5_playPart_80 (by decide) ?_
      exact z_izretM E hr hlocks (mem) rfl rfl ((if_pos s13_111).trans (if_neg c77)) (Nat.le_of_ble_eq_true rfl) (Nat.le_of_ble_eq_true rfl) dX5_playPart_81
  by_cases s13_114 : mem 105 4 = 114
  · skip
    refine z_lookup (tgt := 93) (off := 80) E dX5_playPart_13 (by decide) (by rw [s13_114]; decide) (by decide) ?_
    refine z_aload_n E dX5_playPart_93 rfl 0 rfl ?_
    refine z_aload_n E dX5_playPart_94 rfl 2 rfl ?_
    refine z_get E 105 cw_read (C := RX1) (T := TX1) (N := 6) rfl (fun _ h => List.mem_cons_of_mem _ (List.mem_append_left _ (List.mem_append_left _ (List.mem_append_left _ (List.mem_append_left _ (List.mem_append_right _ h)))))) 5 (by decide) (List.mem_of_getElem? (i := 5) (by decide +kernel)) rfl (v := .int (mem 105 5)) rfl dX5_playPart_95 ?_
    refine z_put E (3 * j) (cw_rig (by omega)) (C := RX2) (T := TX2) (N := 10) rfl (fun _ h => List.mem_cons_of_mem _ (List.mem_append_left _ (List.mem_append_left _ (List.mem_append_left _ (List.mem_append_right _ h))))) tyX2 tyX2_ok nmX2 5 (by decide) (List.mem_of_getElem? (i := 6) (by decide +kernel)) rfl rfl rfl rfl (Nat.le_of_ble_eq_true rfl) (ws' := cw ad cI cR cS (mset mem (3 * j) 5 (mem 105 5))) (cs_rig (by omega) 5 (by decide) rfl) dX5_playPart_98 ?_
    refine z_gm (fun m3 hm3 => ?_)
    have xm3_0 : m3 105 3 = nI j := by rw [hm3, mset_ne _ _ _ (by omega)]; exact hr3
    refine z_goto (tgt := 123) E dX5_playPart_101 (by decide) ?_
    refine z_aload_n E dX5_playPart_123 rfl 1 rfl ?_
    refine z_get E 106 cw_lad (C := RX5) (T := TX5) (N := 4) rfl (fun _ h => List.mem_cons_of_mem _ (List.mem_append_left _ (List.mem_append_left _ (List.mem_append_right _ h)))) 0 (by decide) (List.mem_of_getElem? (i := 4) (by decide +kernel)) rfl (v := .ref (ad (87 + 0))) rfl dX5_playPart_124 ?_
    refine z_aload_n E dX5_playPart_127 rfl 0 rfl ?_
    refine z_callVi E hZ (k_fallsNow l D ad cI cR cS cL m3 (by omega) (by omega)) gX5_playPart_X3_fallsNow (n := 1) rfl rfl rfl (by decide +kernel) rfl ⟨Nat.le_of_ble_eq_true rfl, Nat.le_of_ble_eq_true rfl⟩  (C := RX3) rfl (87 + 0) (cw_site (by omega)) (As := [.ref (ad (3 * j))]) (rest := []) rfl (Nat.le_of_ble_eq_true rfl) ⟨Nat.le_of_ble_eq_true rfl, Nat.le_of_ble_eq_true rfl⟩ dX5_playPart_128 (fun r u hp => ?_)
    rw [hp.1, hp.2]
    refine z_gm (fun m4 hm4 => ?_)
    refine z_pop E dX5_playPart_131 rfl ?_
    refine z_iconst (v := 1) E dX5_playPart_132 (by decide) ?_
    exact z_izretM E hr hlocks (m4) rfl rfl (by subst hm3; subst hm4; exact ((if_neg s13_111).trans (if_pos s13_114))) (Nat.le_of_ble_eq_true rfl) (Nat.le_of_ble_eq_true rfl) dX5_playPart_133
  by_cases s13_117 : mem 105 4 = 117
  · skip
    refine z_lookup (tgt := 48) (off := 35) E dX5_playPart_13 (by decide) (by rw [s13_117]; decide) (by decide) ?_
    refine z_aload_n E dX5_playPart_48 rfl 0 rfl ?_
    refine z_get E (3 * j) (cw_rig (by omega)) (C := RX2) (T := TX2) (N := 10) rfl (fun _ h => List.mem_cons_of_mem _ (List.mem_append_left _ (List.mem_append_left _ (List.mem_append_left _ (List.mem_append_right _ h))))) 7 (by decide) (List.mem_of_getElem? (i := 3) (by decide +kernel)) rfl (v := .int (mem (3 * j) 7)) rfl dX5_playPart_49 ?_
    refine z_if_ne (tgt := 57) E dX5_playPart_52 (by decide) (fun c52 => ?_) (fun c52 => ?_)
    · skip
      obtain ⟨b, hb, hr5b⟩ := hr5 s13_117
      obtain ⟨pp, hpp, h7⟩ := h3 j hj
      obtain ⟨a, ha, hcur⟩ := hA j hj 0 (by omega)
      have hp0 : 0 < pp := Nat.pos_of_ne_zero (fun z => c52 (by rw [h7, z]; rfl))
      refine z_aload_n E dX5_playPart_57 rfl 1 rfl ?_
      refine z_get E 106 cw_lad (C := RX5) (T := TX5) (N := 4) rfl (fun _ h => List.mem_cons_of_mem _ (List.mem_append_left _ (List.mem_append_left _ (List.mem_append_right _ h)))) 0 (by decide) (List.mem_of_getElem? (i := 4) (by decide +kernel)) rfl (v := .ref (ad (87 + 0))) rfl dX5_playPart_58 ?_
      refine z_aload_n E dX5_playPart_61 rfl 0 rfl ?_
      refine z_iconst (v := 0) E dX5_playPart_62 (by decide) ?_
      refine z_aload_n E dX5_playPart_63 rfl 2 rfl ?_
      refine z_get E 105 cw_read (C := RX1) (T := TX1) (N := 6) rfl (fun _ h => List.mem_cons_of_mem _ (List.mem_append_left _ (List.mem_append_left _ (List.mem_append_left _ (List.mem_append_left _ (List.mem_append_right _ h)))))) 5 (by decide) (List.mem_of_getElem? (i := 5) (by decide +kernel)) rfl (v := .int (nI b)) (congrArg (fun z : Int32 => some (Value.int z)) hr5b) dX5_playPart_64 ?_
      refine z_callVi E hZ (k_walk l D ad cI cR cS cL mem (t := 0) (by omega) (j := j) (by omega) (q := 0) (by omega) (a := a) (b := b) ha hb hcur (fBears_of h7 hpp hp0)) gX5_playPart_X3_walk (n := 3) rfl rfl rfl (by decide +kernel) rfl ⟨Nat.le_of_ble_eq_true rfl, Nat.le_of_ble_eq_true rfl⟩  (C := RX3) rfl (87 + 0) (cw_site (by omega)) (As := [.ref (ad (3 * j)), .int 0, .int (nI b)]) (rest := []) rfl (Nat.le_of_ble_eq_true rfl) ⟨Nat.le_of_ble_eq_true rfl, Nat.le_of_ble_eq_true rfl⟩ dX5_playPart_67 (fun r u hp => ?_)
      rw [hp.1, hp.2]
      refine z_gm (fun m5 hm5 => ?_)
      refine z_pop E dX5_playPart_70 rfl ?_
      refine z_iconst (v := 1) E dX5_playPart_71 (by decide) ?_
      exact z_izretM E hr hlocks (m5) rfl rfl (by subst hm5; exact ((if_neg s13_111).trans ((if_neg s13_114).trans ((if_pos s13_117).trans ((if_neg c52).trans (by rw [hr5b, hcur, nI_clamp (by omega), nI_clamp (by omega)]; rfl)))))) (Nat.le_of_ble_eq_true rfl) (Nat.le_of_ble_eq_true rfl) dX5_playPart_72
    · skip
      refine z_iconst (v := 0) E dX5_playPart_55 (by decide) ?_
      exact z_izretM E hr hlocks (mem) rfl rfl ((if_neg s13_111).trans ((if_neg s13_114).trans ((if_pos s13_117).trans (if_pos c52)))) (Nat.le_of_ble_eq_true rfl) (Nat.le_of_ble_eq_true rfl) dX5_playPart_56
  refine z_lookup (tgt := 104) (off := 91) E dX5_playPart_13 (by decide) (zlk3 s13_111 s13_114 s13_117) (by decide) ?_
  refine z_aload_n E dX5_playPart_104 rfl 0 rfl ?_
  refine z_get E (3 * j) (cw_rig (by omega)) (C := RX2) (T := TX2) (N := 10) rfl (fun _ h => List.mem_cons_of_mem _ (List.mem_append_left _ (List.mem_append_left _ (List.mem_append_left _ (List.mem_append_right _ h))))) 7 (by decide) (List.mem_of_getElem? (i := 3) (by decide +kernel)) rfl (v := .int (mem (3 * j) 7)) rfl dX5_playPart_105 ?_
  refine z_if_ne (tgt := 113) E dX5_playPart_108 (by decide) (fun c108 => ?_) (fun c108 => ?_)
  · skip
    refine z_aload_n E dX5_playPart_113 rfl 0 rfl ?_
    refine z_aload_n E dX5_playPart_114 rfl 0 rfl ?_
    refine z_get E (3 * j) (cw_rig (by omega)) (C := RX2) (T := TX2) (N := 10) rfl (fun _ h => List.mem_cons_of_mem _ (List.mem_append_left _ (List.mem_append_left _ (List.mem_append_left _ (List.mem_append_right _ h))))) 7 (by decide) (List.mem_of_getElem? (i := 3) (by decide +kernel)) rfl (v := .int (mem (3 * j) 7)) rfl dX5_playPart_115 ?_
    refine z_iconst (v := 1) E dX5_playPart_118 (by decide) ?_
    refine z_isub E dX5_playPart_119 ?_
    refine z_callVv E hZ (k_remove l D ad cI cR cS cL mem (by omega) ((mem (3 * j) 7) - 1)) gX5_playPart_X2_remove (n := 1) rfl rfl rfl (by decide +kernel) rfl ⟨Nat.le_of_ble_eq_true rfl, Nat.le_of_ble_eq_true rfl⟩  (C := RX2) rfl (3 * j) (cw_rig (by omega)) (As := [.int ((mem (3 * j) 7) - 1)]) (rest := []) rfl (Nat.le_of_ble_eq_true rfl) ⟨Nat.le_of_ble_eq_true rfl, Nat.le_of_ble_eq_true rfl⟩ dX5_playPart_120 (fun u hp => ?_)
    rw [hp]
    refine z_gm (fun m6 hm6 => ?_)
    refine z_aload_n E dX5_playPart_123 rfl 1 rfl ?_
    refine z_get E 106 cw_lad (C := RX5) (T := TX5) (N := 4) rfl (fun _ h => List.mem_cons_of_mem _ (List.mem_append_left _ (List.mem_append_left _ (List.mem_append_right _ h)))) 0 (by decide) (List.mem_of_getElem? (i := 4) (by decide +kernel)) rfl (v := .ref (ad (87 + 0))) rfl dX5_playPart_124 ?_
    refine z_aload_n E dX5_playPart_127 rfl 0 rfl ?_
    refine z_callVi E hZ (k_fallsNow l D ad cI cR cS cL m6 (by omega) (by omega)) gX5_playPart_X3_fallsNow (n := 1) rfl rfl rfl (by decide +kernel) rfl ⟨Nat.le_of_ble_eq_true rfl, Nat.le_of_ble_eq_true rfl⟩  (C := RX3) rfl (87 + 0) (cw_site (by omega)) (As := [.ref (ad (3 * j))]) (rest := []) rfl (Nat.le_of_ble_eq_true rfl) ⟨Nat.le_of_ble_eq_true rfl, Nat.le_of_ble_eq_true rfl⟩ dX5_playPart_128 (fun r u hp => ?_)
    rw [hp.1, hp.2]
    refine z_gm (fun m7 hm7 => ?_)
    refine z_pop E dX5_playPart_131 rfl ?_
    refine z_iconst (v := 1) E dX5_playPart_132 (by decide) ?_
    exact z_izretM E hr hlocks (m7) rfl rfl (by subst hm6; subst hm7; exact ((if_neg s13_111).trans ((if_neg s13_114).trans ((if_neg s13_117).trans (if_neg c108))))) (Nat.le_of_ble_eq_true rfl) (Nat.le_of_ble_eq_true rfl) dX5_playPart_133
  · skip
    refine z_iconst (v := 0) E dX5_playPart_111 (by decide) ?_
    exact z_izretM E hr hlocks (mem) rfl rfl ((if_neg s13_111).trans ((if_neg s13_114).trans ((if_neg s13_117).trans (if_pos c108)))) (Nat.le_of_ble_eq_true rfl) (Nat.le_of_ble_eq_true rfl) dX5_playPart_112
set_option maxHeartbeats 1000000 in
set_option maxRecDepth 100000 in
theorem k_firstError (l : Launch) (D : va_G) (ad : Nat → Nat) (cI cR cS cL : ClassId) (mem : zM) {L : Nat} (hL : L ≤ 60) (hlen : mem 103 1 = nI L) : zMi l yX5_firstError wsX5_firstError ({ frames := 4, cells := 0, slots := 0, locals := 88 }) D (cK cI cR cS cL) [.ref (ad 106)] (cw ad cI cR cS mem) (fun r u => ∃ k, pFF mem L k ∧ r = nI k ∧ u = sFF mem L k) (cw ad cI cR cS) 0 0 := by
  refine zMiM.of (cc := cX5_firstError) (maxL := 1) (ret := (some .int)) (by decide +kernel) rfl (lv0 := [(0, .ref (ad 106))]) (Nat.le_of_ble_eq_true rfl) rfl ?_
  intro p e s m args below meth c E hZ hr hlocks hnm
  refine z_aload_n E dX5_firstError_0 rfl 0 rfl ?_
  refine z_get E 106 cw_lad (C := RX5) (T := TX5) (N := 4) rfl (fun _ h => List.mem_cons_of_mem _ (List.mem_append_left _ (List.mem_append_left _ (List.mem_append_right _ h)))) 2 (by decide) (List.mem_of_getElem? (i := 1) (by decide +kernel)) rfl (v := .ref (ad 103)) rfl dX5_firstError_1 ?_
  refine z_callVi E hZ (k_firstFault l D ad cI cR cS cL mem hL hlen) gX5_firstError_X4_firstFault (n := 0) rfl rfl rfl (by decide +kernel) rfl ⟨(Nat.le_of_ble_eq_true rfl), (Nat.le_of_ble_eq_true rfl)⟩ (C := RX4) rfl 103 cw_works (As := []) (rest := []) rfl (Nat.le_of_ble_eq_true rfl) ⟨(Nat.le_of_ble_eq_true rfl), (Nat.le_of_ble_eq_true rfl)⟩ dX5_firstError_4 (fun r u hp => ?_)
  exact z_iretM E hr hlocks (u) rfl hp (Nat.le_of_ble_eq_true rfl) (Nat.le_of_ble_eq_true rfl) dX5_firstError_7
