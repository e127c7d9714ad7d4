/-! play -/
theorem zIw {mem : zM} {L k : Nat} (h : pFF mem L k) : (if k < L then (0 : Int32) else if fPW (rdN (mem 104) (mem 105) L) = 0 then 0 else 1) = 0 ↔ ¬ zWh mem L := by
  have hk := h.1
  by_cases e : k < L
  · rw [if_pos e]
    exact ⟨fun _ w => by have := pFF_unique h w.1; omega, fun _ => rfl⟩
  · have : k = L := by omega
    subst this
    rw [if_neg e]
    by_cases g : fPW (rdN (mem 104) (mem 105) k) = 0
    · rw [if_pos g]; exact ⟨fun _ w => w.2 g, fun _ => rfl⟩
    · rw [if_neg g]; exact ⟨fun q => absurd q (by decide), fun w => absurd ⟨h, g⟩ w⟩
theorem sFF_ne {mem : zM} {L k i : Nat} (h : i ≠ 105) : sFF mem L k i = mem i := mrow_ne _ _ h
theorem zOK_eq {m m2 : zM} (h : zOK m) (e : ∀ i, i < 12 → m2 i = m i) : zOK m2 := fun i hi => by
  rw [rv_eq (e _ (by omega)) (e _ (by omega)) (e _ (by omega))]; exact h i hi
set_option maxHeartbeats 1000000 in
set_option maxRecDepth 100000 in
theorem k_play (l : Launch) (D : va_G) (ad : Nat → Nat) (cI cR cS cL : ClassId) (mem : zM) {c0 s0 : Nat} (hl : l.stackTraces = false) {L : Nat} (hL : L ≤ 60) (hlen : mem 103 1 = nI L) {q : Nat} (hq : q < 6) (hn : mem 101 1 = nI q) {z : Nat} (hz : z ≤ 6) (hs : mem 101 2 = nI z) (hok : zOK mem) (hrows : zWh mem L → zRows (mem 104) L) (hcs : ¬ zWh mem L → 1 ≤ c0 ∧ 6 ≤ s0) : zXi l yX5_play wsX5_play ({ frames := 8, cells := c0, slots := s0, locals := 133 }) D (cK cI cR cS cL) [.ref (ad 106)] (cw ad cI cR cS mem) (fun r u => zWh mem L ∧ r = nI (zPlay L 60 0 (mset (sSave (sFF mem L L) q z) 103 2 0)).1 ∧ u = mset (zPlay L 60 0 (mset (sSave (sFF mem L L) q z) 103 2 0)).2 103 1 0) (cw ad cI cR cS) (fun E u => ¬ zWh mem L ∧ E = "java/lang/IllegalArgumentException" ∧ ∃ k, u = sFF mem L k) (cw ad cI cR cS) c0 s0 := by
  refine zMiX.of (cc := cX5_play) (maxL := 3) (ret := (some .int)) (by decide +kernel) rfl (lv0 := [(0, .ref (ad 106))]) (Nat.le_of_ble_eq_true rfl) rfl ?_
  intro p e s m args below meth c E hZ hr hlocks htb hnm
  refine z_aload_n E dX5_play_0 rfl 0 rfl ?_
  refine z_get E 106 cw_lad (C := RX5) (T := TX5) (N := 4) rfl (fun _ h => List.mem_cons_of_mem _ (List.mem_append_left _ (List.mem_append_left _ (List.mem_append_left _ (List.mem_append_left _ (List.mem_append_left _ (List.mem_append_left _ (List.mem_append_left _ (List.mem_append_right _ h))))))))) 2 (by decide) (List.mem_of_getElem? (i := 3) (by decide +kernel)) rfl (v := .ref (ad 103)) rfl dX5_play_1 ?_
  refine z_callVi E hZ (k_isWhole l D ad cI cR cS cL mem hL hlen) gX5_play_X4_isWhole (n := 0) rfl rfl rfl (by decide +kernel) rfl ⟨(Nat.le_of_ble_eq_true rfl), (Nat.le_of_ble_eq_true rfl)⟩ (C := RX4) rfl 103 cw_works (As := []) (rest := []) rfl (Nat.le_of_ble_eq_true rfl) ⟨(Nat.le_of_ble_eq_true rfl), (Nat.le_of_ble_eq_true rfl)⟩ dX5_play_4 (fun r u hp => ?_)
  obtain ⟨k, hk, hr1, hu1⟩ := hp
  rw [hr1, hu1]
  generalize hiw : (if k < L then (0 : Int32) else if fPW (rdN (mem 104) (mem 105) L) = 0 then 0 else 1) = iw
  refine z_gm (fun m1 hm1 => ?_)
  refine z_if_ne (tgt := 20) E dX5_play_7 (by decide) (fun c7 => ?_) (fun c7 => ?_)
  · skip
    have hw : zWh mem L := by by_cases q : zWh mem L; exact q; exact absurd (hiw.symm.trans ((zIw hk).mpr q)) c7
    have hkL : k = L := pFF_unique hk hw.1
    subst hkL
    have hn1 : m1 101 1 = nI q := by rw [hm1, sFF_ne (by omega)]; exact hn
    have hs1 : m1 101 2 = nI z := by rw [hm1, sFF_ne (by omega)]; exact hs
    refine z_aload_n E dX5_play_20 rfl 0 rfl ?_
    refine z_get E 106 cw_lad (C := RX5) (T := TX5) (N := 4) rfl (fun _ h => List.mem_cons_of_mem _ (List.mem_append_left _ (List.mem_append_left _ (List.mem_append_left _ (List.mem_append_left _ (List.mem_append_left _ (List.mem_append_left _ (List.mem_append_left _ (List.mem_append_right _ h))))))))) 1 (by decide) (List.mem_of_getElem? (i := 4) (by decide +kernel)) rfl (v := .ref (ad 101)) rfl dX5_play_21 ?_
    refine z_aload_n E dX5_play_24 rfl 0 rfl ?_
    refine z_get E 106 cw_lad (C := RX5) (T := TX5) (N := 4) rfl (fun _ h => List.mem_cons_of_mem _ (List.mem_append_left _ (List.mem_append_left _ (List.mem_append_left _ (List.mem_append_left _ (List.mem_append_left _ (List.mem_append_left _ (List.mem_append_left _ (List.mem_append_right _ h))))))))) 0 (by decide) (List.mem_of_getElem? (i := 5) (by decide +kernel)) rfl (v := .ref (ad (87 + 0))) rfl dX5_play_25 ?_
    refine z_callVv E hZ (k_save l D ad cI cR cS cL m1 hq hn1 hz hs1) gX5_play_X0_save (n := 1) rfl rfl rfl (by decide +kernel) rfl ⟨Nat.le_of_ble_eq_true rfl, Nat.le_of_ble_eq_true rfl⟩  (C := RX0) rfl 101 cw_hist (As := [.ref (ad (87 + 0))]) (rest := []) rfl (Nat.le_of_ble_eq_true rfl) ⟨Nat.zero_le _, Nat.zero_le _⟩ dX5_play_28 (fun u hp => ?_)
    rw [hp]
    refine z_gm (fun m2 hm2 => ?_)
    refine z_aload_n E dX5_play_31 rfl 0 rfl ?_
    refine z_get E 106 cw_lad (C := RX5) (T := TX5) (N := 4) rfl (fun _ h => List.mem_cons_of_mem _ (List.mem_append_left _ (List.mem_append_left _ (List.mem_append_left _ (List.mem_append_left _ (List.mem_append_left _ (List.mem_append_left _ (List.mem_append_left _ (List.mem_append_right _ h))))))))) 2 (by decide) (List.mem_of_getElem? (i := 3) (by decide +kernel)) rfl (v := .ref (ad 103)) rfl dX5_play_32 ?_
    refine z_callVv E hZ (k_wRewind l D ad cI cR cS cL m2 ) gX5_play_X4_rewind (n := 0) rfl rfl rfl (by decide +kernel) rfl ⟨Nat.le_of_ble_eq_true rfl, Nat.le_of_ble_eq_true rfl⟩  (C := RX4) rfl 103 cw_works (As := []) (rest := []) rfl (Nat.le_of_ble_eq_true rfl) ⟨Nat.zero_le _, Nat.zero_le _⟩ dX5_play_35 (fun u hp => ?_)
    rw [hp]
    refine z_gm (fun m3 hm3 => ?_)
    refine z_iconst (v := 0) E dX5_play_38 (by decide) ?_
    refine z_istore_n (lv' := [(1, .int 0), (0, .ref (ad 106))]) E dX5_play_39 rfl (by decide) rfl ?_
    refine z_iconst (v := 0) E dX5_play_40 (by decide) ?_
    refine z_istore_n (lv' := [(2, .int 0), (1, .int 0), (0, .ref (ad 106))]) E dX5_play_41 rfl (by decide) rfl ?_
    refine z_loop (σ := zM × Nat × Nat) (fun n y => y.2.2 + n = 60 ∧ y.1 103 2 = nI y.2.1 ∧ y.2.1 ≤ 60 ∧ (k ≤ y.2.1 ∨ zSt (mem 104) y.2.1) ∧ y.1 104 = mem 104 ∧ y.1 103 1 = nI k ∧ zOK y.1 ∧ zPlay k 60 0 (mset (sSave (sFF mem k k) q z) 103 2 0) = (y.2.2 + (zPlay k n y.2.1 y.1).1, (zPlay k n y.2.1 y.1).2)) (fun y => cw ad cI cR cS y.1) (fun y => [(2, .int (nI y.2.2)), (1, .int (nI y.2.2)), (0, .ref (ad 106))]) 42 0 0 ?_ 60 (m3, 0, 0) ?_ rfl rfl rfl rfl rfl
    rotate_left
    · skip
      have hall : ∀ i, 12 ≤ i ∨ i < 12 → (m3 i = mset (sSave (sFF mem k k) q z) 103 2 0 i) := fun i _ => by rw [hm3, hm2, hm1]
      have hk0 : ∀ i, (i < 12 ∨ 104 ≤ i) → i ≠ 105 → m3 i = mem i := fun i hi h5 => by rw [hm3, mset_ne _ _ _ (by omega), hm2, sSave_ne (by omega) hq, hm1, sFF_ne h5]
      refine ⟨Nat.zero_add _, by show m3 103 2 = 0; rw [hm3, mset_at], Nat.zero_le _, Or.inr (Or.inl rfl), hk0 104 (by omega) (by omega), by show m3 103 1 = nI k; rw [hm3, mset_ne2 _ _ (by decide), hm2, sSave_ne (by omega) hq, hm1, sFF_ne (by omega)]; exact hlen, zOK_eq hok (fun i hi => hk0 i (by omega) (by omega)), ?_⟩
      show zPlay k 60 0 _ = (0 + (zPlay k 60 0 m3).1, (zPlay k 60 0 m3).2)
      rw [hm3, hm2, hm1, Nat.zero_add]
    rintro n ⟨m, qq, i⟩ ⟨hin, hcq, hqle, hst, h104, hlen1, hok1, hgo⟩ ih
    dsimp only at hin hcq hqle hst h104 hlen1 hok1 hgo ⊢
    refine z_iload_n E dX5_play_42 rfl 0 rfl ?_
    refine z_bipush (v := 60) E dX5_play_43 (by decide) ?_
    refine z_icmp_ge (tgt := 81) E dX5_play_45 (by decide) (fun c45 => ?_) (fun c45 => ?_)
    · skip
      refine z_aload_n E dX5_play_81 rfl 2 rfl ?_
      refine z_get E 106 cw_lad (C := RX5) (T := TX5) (N := 4) rfl (fun _ h => List.mem_cons_of_mem _ (List.mem_append_left _ (List.mem_append_left _ (List.mem_append_left _ (List.mem_append_left _ (List.mem_append_left _ (List.mem_append_left _ (List.mem_append_left _ (List.mem_append_right _ h))))))))) 2 (by decide) (List.mem_of_getElem? (i := 3) (by decide +kernel)) rfl (v := .ref (ad 103)) rfl dX5_play_82 ?_
      refine z_callVv E hZ (k_wClear l D ad cI cR cS cL m ) gX5_play_X4_clear (n := 0) rfl rfl rfl (by decide +kernel) rfl ⟨Nat.le_of_ble_eq_true rfl, Nat.le_of_ble_eq_true rfl⟩  (C := RX4) rfl 103 cw_works (As := []) (rest := []) rfl (Nat.le_of_ble_eq_true rfl) ⟨Nat.zero_le _, Nat.zero_le _⟩ dX5_play_85 (fun u hp => ?_)
      rw [hp]
      refine z_gm (fun m4 hm4 => ?_)
      refine z_iload_n E dX5_play_88 rfl 1 rfl ?_
      exact z_iretX E hr hlocks (m4) rfl ⟨hw, by rw [(hgo.trans (by rw [show n = 0 by have := (nI_leI (a := 60) (b := i) (by omega) (by omega)).mp c45; omega, zPlay]))]; rfl, by rw [(hgo.trans (by rw [show n = 0 by have := (nI_leI (a := 60) (b := i) (by omega) (by omega)).mp c45; omega, zPlay]))]; exact hm4⟩ (Nat.zero_le _) (Nat.zero_le _) dX5_play_89
    · skip
      obtain ⟨n, rfl⟩ : ∃ n1, n = n1 + 1 := ⟨n - 1, by have := zklt (k := i) (L := 60) (by omega) (by omega) c45; omega⟩
      have hqq : qq ≤ 60 ∨ 60 < qq := by omega
      refine z_aload_n E dX5_play_48 rfl 2 rfl ?_
      have hqb : qq ≤ 60 := hqle
      refine z_get E 106 cw_lad (C := RX5) (T := TX5) (N := 4) rfl (fun _ h => List.mem_cons_of_mem _ (List.mem_append_left _ (List.mem_append_left _ (List.mem_append_left _ (List.mem_append_left _ (List.mem_append_left _ (List.mem_append_left _ (List.mem_append_left _ (List.mem_append_right _ h))))))))) 2 (by decide) (List.mem_of_getElem? (i := 3) (by decide +kernel)) rfl (v := .ref (ad 103)) rfl dX5_play_49 ?_
      refine z_callVi E hZ (k_nextPart l D ad cI cR cS cL m hL hlen1 hqb hcq) gX5_play_X4_nextPart (n := 0) rfl rfl rfl (by decide +kernel) rfl ⟨(Nat.le_of_ble_eq_true rfl), (Nat.le_of_ble_eq_true rfl)⟩ (C := RX4) rfl 103 cw_works (As := []) (rest := []) rfl (Nat.le_of_ble_eq_true rfl) ⟨(Nat.le_of_ble_eq_true rfl), (Nat.le_of_ble_eq_true rfl)⟩ dX5_play_52 (fun r u hp => ?_)
      rcases hp with ⟨hr1, hLq, hu⟩ | ⟨hr1, hqL, n1, hNP⟩
      · skip
        rw [hr1, hu]
        refine z_if_eq_t (tgt := 81) E dX5_play_55 (by decide) (by decide) ?_
        refine z_aload_n E dX5_play_81 rfl 2 rfl ?_
        refine z_get E 106 cw_lad (C := RX5) (T := TX5) (N := 4) rfl (fun _ h => List.mem_cons_of_mem _ (List.mem_append_left _ (List.mem_append_left _ (List.mem_append_left _ (List.mem_append_left _ (List.mem_append_left _ (List.mem_append_left _ (List.mem_append_left _ (List.mem_append_right _ h))))))))) 2 (by decide) (List.mem_of_getElem? (i := 3) (by decide +kernel)) rfl (v := .ref (ad 103)) rfl dX5_play_82 ?_
        refine z_callVv E hZ (k_wClear l D ad cI cR cS cL m ) gX5_play_X4_clear (n := 0) rfl rfl rfl (by decide +kernel) rfl ⟨Nat.le_of_ble_eq_true rfl, Nat.le_of_ble_eq_true rfl⟩  (C := RX4) rfl 103 cw_works (As := []) (rest := []) rfl (Nat.le_of_ble_eq_true rfl) ⟨Nat.zero_le _, Nat.zero_le _⟩ dX5_play_85 (fun u hp => ?_)
        rw [hp]
        refine z_gm (fun m5 hm5 => ?_)
        refine z_iload_n E dX5_play_88 rfl 1 rfl ?_
        exact z_iretX E hr hlocks (m5) rfl ⟨hw, by rw [(hgo.trans (by rw [zPlay_end hLq]))]; rfl, by rw [(hgo.trans (by rw [zPlay_end hLq]))]; exact hm5⟩ (Nat.zero_le _) (Nat.zero_le _) dX5_play_89
      · skip
        rw [hr1]
        obtain ⟨hn1, hu, hle, hend, hno⟩ := pNP_eq hqL hNP
        rw [h104] at hn1 hend hno
        have hu104 : u 104 = mem 104 := by rw [hu]; unfold sNP; rw [mset_ne _ _ _ (by decide), mrow_ne _ _ (by decide)]; exact h104
        have hst1 : zSt (mem 104) qq := by rcases hst with h | h; omega; exact h
        obtain ⟨j, hrj⟩ := hrows hw qq n1 hqL hst1 hle hno hend (m 105)
        have hu105 : u 105 = rdS (mem 104) (m 105) qq n1 := by rw [hu]; unfold sNP; rw [mset_ne _ _ _ (by decide), mrow_at, h104, ← hn1]
        rw [← hu105] at hrj
        have huok : zOK u := zOK_eq hok1 (fun i hi => by rw [hu]; unfold sNP; rw [mset_ne _ _ _ (by omega), mrow_ne _ _ (by omega)])
        refine z_if_eq_f (tgt := 81) E dX5_play_55 (by decide) (by decide) ?_
        refine z_aload_n E dX5_play_58 rfl 2 rfl ?_
        refine z_aload_n E dX5_play_59 rfl 2 rfl ?_
        refine z_get E 106 cw_lad (C := RX5) (T := TX5) (N := 4) rfl (fun _ h => List.mem_cons_of_mem _ (List.mem_append_left _ (List.mem_append_left _ (List.mem_append_left _ (List.mem_append_left _ (List.mem_append_left _ (List.mem_append_left _ (List.mem_append_left _ (List.mem_append_right _ h))))))))) 2 (by decide) (List.mem_of_getElem? (i := 3) (by decide +kernel)) rfl (v := .ref (ad 103)) rfl dX5_play_60 ?_
        refine z_get E 103 cw_works (C := RX4) (T := TX4) (N := 4) rfl (fun _ h => List.mem_cons_of_mem _ (List.mem_append_left _ (List.mem_append_left _ (List.mem_append_left _ (List.mem_append_left _ (List.mem_append_left _ (List.mem_append_left _ (List.mem_append_right _ h)))))))) 3 (by decide) (List.mem_of_getElem? (i := 6) (by decide +kernel)) rfl (v := .ref (ad 105)) rfl dX5_play_63 ?_
        refine z_callVi E hZ (k_playPart l D ad cI cR cS cL u hrj.1 hrj.2.1 hrj.hr5 huok.h3 huok.hA) gX5_play_X5_playPart (n := 1) rfl rfl rfl (by decide +kernel) rfl ⟨(Nat.le_of_ble_eq_true rfl), (Nat.le_of_ble_eq_true rfl)⟩ (C := RX5) rfl 106 cw_lad (As := [.ref (ad 105)]) (rest := []) rfl (Nat.le_of_ble_eq_true rfl) ⟨(Nat.le_of_ble_eq_true rfl), (Nat.le_of_ble_eq_true rfl)⟩ dX5_play_66 (fun r2 u2 hp2 => ?_)
        have e2 : (fPPj u j).2 = u2 := by rw [hp2]
        have hok2 : zOK u2 := by rw [← e2]; exact zOK_PP huok hrj
        have hk2 : ∀ i, 88 ≤ i → u2 i = u i := fun i hi => by rw [← e2]; exact fPPj_ne (by omega) (by have := hrj.1; omega) (by have := hrj.1; omega) (by have := hrj.1; omega)
        refine z_if_eq (tgt := 81) E dX5_play_69 (by decide) (fun c69 => ?_) (fun c69 => ?_)
        · skip
          refine z_aload_n E dX5_play_81 rfl 2 rfl ?_
          refine z_get E 106 cw_lad (C := RX5) (T := TX5) (N := 4) rfl (fun _ h => List.mem_cons_of_mem _ (List.mem_append_left _ (List.mem_append_left _ (List.mem_append_left _ (List.mem_append_left _ (List.mem_append_left _ (List.mem_append_left _ (List.mem_append_left _ (List.mem_append_right _ h))))))))) 2 (by decide) (List.mem_of_getElem? (i := 3) (by decide +kernel)) rfl (v := .ref (ad 103)) rfl dX5_play_82 ?_
          refine z_callVv E hZ (k_wClear l D ad cI cR cS cL u2 ) gX5_play_X4_clear (n := 0) rfl rfl rfl (by decide +kernel) rfl ⟨Nat.le_of_ble_eq_true rfl, Nat.le_of_ble_eq_true rfl⟩  (C := RX4) rfl 103 cw_works (As := []) (rest := []) rfl (Nat.le_of_ble_eq_true rfl) ⟨Nat.zero_le _, Nat.zero_le _⟩ dX5_play_85 (fun u hp => ?_)
          rw [hp]
          refine z_gm (fun m6 hm6 => ?_)
          refine z_iload_n E dX5_play_88 rfl 1 rfl ?_
          exact z_iretX E hr hlocks (m6) rfl ⟨hw, by rw [(hgo.trans (by rw [zPlay_no hqL hu hrj.2.1 hrj.1 (by rw [hp2, c69])]))]; rfl, by rw [(hgo.trans (by rw [zPlay_no hqL hu hrj.2.1 hrj.1 (by rw [hp2, c69])]))]; exact hm6⟩ (Nat.zero_le _) (Nat.zero_le _) dX5_play_89
        · skip
          have hgo2 := zPlay_go (f := n) hqL hu hrj.2.1 hrj.1 hp2 c69
          rw [h104] at hgo2
          have hcs2 : zQn (m 104) k qq = zQn (mem 104) k qq := by rw [h104]
          have hqn : zQn (mem 104) k qq ≤ 60 := by unfold zQn; rw [← hn1]; split <;> omega
          have hst2 : k ≤ zQn (mem 104) k qq ∨ zSt (mem 104) (zQn (mem 104) k qq) := by
            unfold zQn; rw [← hn1]
            by_cases g : qq + n1 < k
            · rw [if_pos g]; exact Or.inr (Or.inr ⟨_, rfl, by rcases hend with h | h; omega; exact h⟩)
            · rw [if_neg g]; exact Or.inl (by omega)
          refine z_iinc (v := nI i + 1) (lv' := [(1, .int (nI i + 1)), (2, .int (nI i)), (0, .ref (ad 106))]) E dX5_play_72 (q := 1) rfl rfl (by decide) rfl ?_
          refine z_iinc (v := nI i + 1) (lv' := [(2, .int (nI i + 1)), (1, .int (nI i + 1)), (0, .ref (ad 106))]) E dX5_play_75 (q := 1) rfl rfl (by decide) rfl ?_
          refine z_goto (tgt := 42) E dX5_play_78 (by decide) ?_
          refine z_eq (ws' := cw ad cI cR cS u2) (lv' := [(2, .int (nI (i + 1))), (1, .int (nI (i + 1))), (0, .ref (ad 106))]) (st' := []) rfl (by rw [← nI_1 i]) rfl ?_
          exact ih n (u2, zQn (mem 104) k qq, i + 1) (by omega) ⟨by show i + 1 + n = 60; omega, by show u2 103 2 = _; rw [hk2 103 (by omega), hu]; exact hcs2 ▸ mset_at _ _ _ _, hqn, hst2, by show u2 104 = _; rw [hk2 104 (by omega), hu104], by show u2 103 1 = _; rw [hk2 103 (by omega), hu]; exact hlen1, hok2, by rw [hgo, hgo2]; show (i + (_ + 1), _) = (i + 1 + _, _); rw [Nat.add_assoc, Nat.add_comm 1]⟩
  · skip
    exact zx_throwS (py := (fun E u => ¬ zWh mem L ∧ E = "java/lang/IllegalArgumentException" ∧ ∃ k, u = sFF mem L k)) (outy := cw ad cI cR cS) E hZ hl hlocks htb (cls := "java/lang/IllegalArgumentException") (text := "the buffer is not complete works") (names := ["java/lang/RuntimeException", "java/lang/Exception"]) (ik := 118) (is := 120) (ic := 122) (by decide +kernel) (by decide +kernel) (List.mem_of_getElem? (i := 1) (by decide +kernel)) (List.mem_of_getElem? (i := 2) (by decide +kernel)) hZ.2.2.2.2.2.2.1 (fun _ h => List.mem_cons_of_mem _ (List.mem_append_left _ (List.mem_append_right _ h))) (by decide +kernel) (by decide +kernel) dX5_play_10 dX5_play_13 dX5_play_14 dX5_play_16 dX5_play_19 (Nat.le_of_ble_eq_true rfl) (Nat.le_of_ble_eq_true rfl) ((hcs ((zIw hk).mp (hiw.trans c7))).1) ((hcs ((zIw hk).mp (hiw.trans c7))).2) (m1) ⟨(zIw hk).mp (hiw.trans c7), rfl, k, hm1⟩ rfl ((hcs ((zIw hk).mp (hiw.trans c7))).1) ((hcs ((zIw hk).mp (hiw.trans c7))).2)
