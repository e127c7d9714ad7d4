/-! the reference: the digest of a ladder -/
set_option maxHeartbeats 1000000 in
set_option maxRecDepth 100000 in
theorem k_mdigLadder (l : Launch) (D : va_G) (am : Nat → Nat) (cI cR cS cL : ClassId) (dg : Int64) (mem : zM) {cm : zM} (hok : zOK cm) (hS : zS cm (mem 1)) {k : Nat} (hk : k < 4) {pp : Nat} (hpp : rPp (rv cm k) pp) : zMv l yX6_digestLadder wsX6_digestLadder ({ frames := 5, cells := 0, slots := 0, locals := 123 }) D (cK cI cR cS cL) [.ref (am 0), .int (nI k)] (mw am cI dg mem) (fun (u : Int64 × zM) => u.1 = zMx dg (zLad (rv cm k) pp) ∧ zScr mem u.2) (fun (u : Int64 × zM) => mw am cI u.1 u.2) 0 0 := by
  refine zMvM.of (cc := cX6_digestLadder) (maxL := 3) (ret := none) (by decide +kernel) rfl (lv0 := [(0, .ref (am 0)), (1, .int (nI k))]) (Nat.le_of_ble_eq_true rfl) rfl ?_
  intro p e s m args below meth c E hZ hr hlocks hnm
  have hmR : mR (mem 1) k (rv cm k) pp := by { obtain ⟨p1, hp1, hm⟩ := hS.1 k hk; rw [rPp_unique hpp hp1]; exact hm }
  refine z_iconst (v := 0) E dX6_digestLadder_0 (by decide) ?_
  refine z_istore_n (lv' := [(2, .int 0), (0, .ref (am 0)), (1, .int (nI k))]) E dX6_digestLadder_1 rfl (by decide) rfl ?_
  refine z_iload_n E dX6_digestLadder_2 rfl 0 rfl ?_
  refine z_bipush (v := 11) E dX6_digestLadder_3 (by decide) ?_
  refine z_icmp_ge_f (tgt := 25) E dX6_digestLadder_5 (by decide) (by decide) ?_
  refine z_aload_n E dX6_digestLadder_8 rfl 1 rfl ?_
  refine z_aload_n E dX6_digestLadder_9 rfl 1 rfl ?_
  refine z_iload_n E dX6_digestLadder_10 rfl 2 rfl ?_
  refine z_iload_n E dX6_digestLadder_11 rfl 0 rfl ?_
  refine z_callVi E hZ (k_mof0 l D am cI cR cS cL dg mem hk (by rw [(zScr.refl mem).s]; exact hmR) hpp (hok k hk).1 ) gX6_digestLadder_X6_ofLadder (n := 2) rfl rfl rfl (by decide +kernel) rfl ⟨(Nat.le_of_ble_eq_true rfl), (Nat.le_of_ble_eq_true rfl)⟩ (C := RX6) rfl 0 mw_obj (As := [.int (nI k), .int (0)]) (rest := [.ref (am 0)]) rfl (Nat.le_of_ble_eq_true rfl) ⟨(Nat.le_of_ble_eq_true rfl), (Nat.le_of_ble_eq_true rfl)⟩ dX6_digestLadder_12 (fun r m1 hp => ?_)
  rw [hp.1]
  have sm1 : zScr mem m1 := (zScr.refl mem).trans hp.2
  refine z_i2l (v := ((rv cm k) 0).toInt64) E dX6_digestLadder_15 rfl ?_
  refine z_callVv E hZ (k_digestOne l D am cI cR cS cL dg m1 (((rv cm k) 0).toInt64)) gX6_digestLadder_X6_digestOne (n := 1) rfl rfl rfl (by decide +kernel) rfl ⟨(Nat.le_of_ble_eq_true rfl), (Nat.le_of_ble_eq_true rfl)⟩ (C := RX6) rfl 0 mw_obj (As := [.long (((rv cm k) 0).toInt64)]) (rest := []) rfl (Nat.le_of_ble_eq_true rfl) ⟨(Nat.le_of_ble_eq_true rfl), (Nat.le_of_ble_eq_true rfl)⟩ dX6_digestLadder_16 (fun u hp => ?_)
  rw [hp]
  obtain ⟨g2, hg2⟩ : ∃ x, x = 31 * dg + (((rv cm k) 0).toInt64) := ⟨_, rfl⟩
  refine z_eq (ws' := mw am cI g2 m1) (lv' := [(2, .int 0), (0, .ref (am 0)), (1, .int (nI k))]) (st' := []) (by rw [hg2]) rfl rfl ?_
  refine z_gm2 (fun m3 hm3 => ?_)
  have sm3 : zScr mem m3 := by rw [hm3]; exact sm1
  refine z_iinc (v := 1) (lv' := [(2, .int 1), (0, .ref (am 0)), (1, .int (nI k))]) E dX6_digestLadder_19 (q := 0) rfl (by decide) (by decide) rfl ?_
  refine z_goto (tgt := 2) E dX6_digestLadder_22 (by decide) ?_
  refine z_iload_n E dX6_digestLadder_2 rfl 0 rfl ?_
  refine z_bipush (v := 11) E dX6_digestLadder_3 (by decide) ?_
  refine z_icmp_ge_f (tgt := 25) E dX6_digestLadder_5 (by decide) (by decide) ?_
  refine z_aload_n E dX6_digestLadder_8 rfl 1 rfl ?_
  refine z_aload_n E dX6_digestLadder_9 rfl 1 rfl ?_
  refine z_iload_n E dX6_digestLadder_10 rfl 2 rfl ?_
  refine z_iload_n E dX6_digestLadder_11 rfl 0 rfl ?_
  refine z_callVi E hZ (k_mof1 l D am cI cR cS cL g2 m3 hk (by rw [sm3.s]; exact hmR) hpp (hok k hk).1 ) gX6_digestLadder_X6_ofLadder (n := 2) rfl rfl rfl (by decide +kernel) rfl ⟨(Nat.le_of_ble_eq_true rfl), (Nat.le_of_ble_eq_true rfl)⟩ (C := RX6) rfl 0 mw_obj (As := [.int (nI k), .int (1)]) (rest := [.ref (am 0)]) rfl (Nat.le_of_ble_eq_true rfl) ⟨(Nat.le_of_ble_eq_true rfl), (Nat.le_of_ble_eq_true rfl)⟩ dX6_digestLadder_12 (fun r m4 hp => ?_)
  rw [hp.1]
  have sm4 : zScr mem m4 := sm3.trans hp.2
  refine z_i2l (v := ((rv cm k) 1).toInt64) E dX6_digestLadder_15 rfl ?_
  refine z_callVv E hZ (k_digestOne l D am cI cR cS cL g2 m4 (((rv cm k) 1).toInt64)) gX6_digestLadder_X6_digestOne (n := 1) rfl rfl rfl (by decide +kernel) rfl ⟨(Nat.le_of_ble_eq_true rfl), (Nat.le_of_ble_eq_true rfl)⟩ (C := RX6) rfl 0 mw_obj (As := [.long (((rv cm k) 1).toInt64)]) (rest := []) rfl (Nat.le_of_ble_eq_true rfl) ⟨(Nat.le_of_ble_eq_true rfl), (Nat.le_of_ble_eq_true rfl)⟩ dX6_digestLadder_16 (fun u hp => ?_)
  rw [hp]
  obtain ⟨g5, hg5⟩ : ∃ x, x = 31 * g2 + (((rv cm k) 1).toInt64) := ⟨_, rfl⟩
  refine z_eq (ws' := mw am cI g5 m4) (lv' := [(2, .int 1), (0, .ref (am 0)), (1, .int (nI k))]) (st' := []) (by rw [hg5]) rfl rfl ?_
  refine z_gm2 (fun m6 hm6 => ?_)
  have sm6 : zScr mem m6 := by rw [hm6]; exact sm4
  refine z_iinc (v := 2) (lv' := [(2, .int 2), (0, .ref (am 0)), (1, .int (nI k))]) E dX6_digestLadder_19 (q := 0) rfl (by decide) (by decide) rfl ?_
  refine z_goto (tgt := 2) E dX6_digestLadder_22 (by decide) ?_
  refine z_iload_n E dX6_digestLadder_2 rfl 0 rfl ?_
  refine z_bipush (v := 11) E dX6_digestLadder_3 (by decide) ?_
  refine z_icmp_ge_f (tgt := 25) E dX6_digestLadder_5 (by decide) (by decide) ?_
  refine z_aload_n E dX6_digestLadder_8 rfl 1 rfl ?_
  refine z_aload_n E dX6_digestLadder_9 rfl 1 rfl ?_
  refine z_iload_n E dX6_digestLadder_10 rfl 2 rfl ?_
  refine z_iload_n E dX6_digestLadder_11 rfl 0 rfl ?_
  refine z_callVi E hZ (k_mof2 l D am cI cR cS cL g5 m6 hk (by rw [sm6.s]; exact hmR) hpp (hok k hk).1 ) gX6_digestLadder_X6_ofLadder (n := 2) rfl rfl rfl (by decide +kernel) rfl ⟨(Nat.le_of_ble_eq_true rfl), (Nat.le_of_ble_eq_true rfl)⟩ (C := RX6) rfl 0 mw_obj (As := [.int (nI k), .int (2)]) (rest := [.ref (am 0)]) rfl (Nat.le_of_ble_eq_true rfl) ⟨(Nat.le_of_ble_eq_true rfl), (Nat.le_of_ble_eq_true rfl)⟩ dX6_digestLadder_12 (fun r m7 hp => ?_)
  rw [hp.1]
  have sm7 : zScr mem m7 := sm6.trans hp.2
  refine z_i2l (v := ((rv cm k) 2).toInt64) E dX6_digestLadder_15 rfl ?_
  refine z_callVv E hZ (k_digestOne l D am cI cR cS cL g5 m7 (((rv cm k) 2).toInt64)) gX6_digestLadder_X6_digestOne (n := 1) rfl rfl rfl (by decide +kernel) rfl ⟨(Nat.le_of_ble_eq_true rfl), (Nat.le_of_ble_eq_true rfl)⟩ (C := RX6) rfl 0 mw_obj (As := [.long (((rv cm k) 2).toInt64)]) (rest := []) rfl (Nat.le_of_ble_eq_true rfl) ⟨(Nat.le_of_ble_eq_true rfl), (Nat.le_of_ble_eq_true rfl)⟩ dX6_digestLadder_16 (fun u hp => ?_)
  rw [hp]
  obtain ⟨g8, hg8⟩ : ∃ x, x = 31 * g5 + (((rv cm k) 2).toInt64) := ⟨_, rfl⟩
  refine z_eq (ws' := mw am cI g8 m7) (lv' := [(2, .int 2), (0, .ref (am 0)), (1, .int (nI k))]) (st' := []) (by rw [hg8]) rfl rfl ?_
  refine z_gm2 (fun m9 hm9 => ?_)
  have sm9 : zScr mem m9 := by rw [hm9]; exact sm7
  refine z_iinc (v := 3) (lv' := [(2, .int 3), (0, .ref (am 0)), (1, .int (nI k))]) E dX6_digestLadder_19 (q := 0) rfl (by decide) (by decide) rfl ?_
  refine z_goto (tgt := 2) E dX6_digestLadder_22 (by decide) ?_
  refine z_iload_n E dX6_digestLadder_2 rfl 0 rfl ?_
  refine z_bipush (v := 11) E dX6_digestLadder_3 (by decide) ?_
  refine z_icmp_ge_f (tgt := 25) E dX6_digestLadder_5 (by decide) (by decide) ?_
  refine z_aload_n E dX6_digestLadder_8 rfl 1 rfl ?_
  refine z_aload_n E dX6_digestLadder_9 rfl 1 rfl ?_
  refine z_iload_n E dX6_digestLadder_10 rfl 2 rfl ?_
  refine z_iload_n E dX6_digestLadder_11 rfl 0 rfl ?_
  refine z_callVi E hZ (k_mof3 l D am cI cR cS cL g8 m9 hk (by rw [sm9.s]; exact hmR) hpp (hok k hk).1 ) gX6_digestLadder_X6_ofLadder (n := 2) rfl rfl rfl (by decide +kernel) rfl ⟨(Nat.le_of_ble_eq_true rfl), (Nat.le_of_ble_eq_true rfl)⟩ (C := RX6) rfl 0 mw_obj (As := [.int (nI k), .int (3)]) (rest := [.ref (am 0)]) rfl (Nat.le_of_ble_eq_true rfl) ⟨(Nat.le_of_ble_eq_true rfl), (Nat.le_of_ble_eq_true rfl)⟩ dX6_digestLadder_12 (fun r m10 hp => ?_)
  rw [hp.1]
  have sm10 : zScr mem m10 := sm9.trans hp.2
  refine z_i2l (v := ((rv cm k) 3).toInt64) E dX6_digestLadder_15 rfl ?_
  refine z_callVv E hZ (k_digestOne l D am cI cR cS cL g8 m10 (((rv cm k) 3).toInt64)) gX6_digestLadder_X6_digestOne (n := 1) rfl rfl rfl (by decide +kernel) rfl ⟨(Nat.le_of_ble_eq_true rfl), (Nat.le_of_ble_eq_true rfl)⟩ (C := RX6) rfl 0 mw_obj (As := [.long (((rv cm k) 3).toInt64)]) (rest := []) rfl (Nat.le_of_ble_eq_true rfl) ⟨(Nat.le_of_ble_eq_true rfl), (Nat.le_of_ble_eq_true rfl)⟩ dX6_digestLadder_16 (fun u hp => ?_)
  rw [hp]
  obtain ⟨g11, hg11⟩ : ∃ x, x = 31 * g8 + (((rv cm k) 3).toInt64) := ⟨_, rfl⟩
  refine z_eq (ws' := mw am cI g11 m10) (lv' := [(2, .int 3), (0, .ref (am 0)), (1, .int (nI k))]) (st' := []) (by rw [hg11]) rfl rfl ?_
  refine z_gm2 (fun m12 hm12 => ?_)
  have sm12 : zScr mem m12 := by rw [hm12]; exact sm10
  refine z_iinc (v := 4) (lv' := [(2, .int 4), (0, .ref (am 0)), (1, .int (nI k))]) E dX6_digestLadder_19 (q := 0) rfl (by decide) (by decide) rfl ?_
  refine z_goto (tgt := 2) E dX6_digestLadder_22 (by decide) ?_
  refine z_iload_n E dX6_digestLadder_2 rfl 0 rfl ?_
  refine z_bipush (v := 11) E dX6_digestLadder_3 (by decide) ?_
  refine z_icmp_ge_f (tgt := 25) E dX6_digestLadder_5 (by decide) (by decide) ?_
  refine z_aload_n E dX6_digestLadder_8 rfl 1 rfl ?_
  refine z_aload_n E dX6_digestLadder_9 rfl 1 rfl ?_
  refine z_iload_n E dX6_digestLadder_10 rfl 2 rfl ?_
  refine z_iload_n E dX6_digestLadder_11 rfl 0 rfl ?_
  refine z_callVi E hZ (k_mof4 l D am cI cR cS cL g11 m12 hk (by rw [sm12.s]; exact hmR) hpp (hok k hk).1 ) gX6_digestLadder_X6_ofLadder (n := 2) rfl rfl rfl (by decide +kernel) rfl ⟨(Nat.le_of_ble_eq_true rfl), (Nat.le_of_ble_eq_true rfl)⟩ (C := RX6) rfl 0 mw_obj (As := [.int (nI k), .int (4)]) (rest := [.ref (am 0)]) rfl (Nat.le_of_ble_eq_true rfl) ⟨(Nat.le_of_ble_eq_true rfl), (Nat.le_of_ble_eq_true rfl)⟩ dX6_digestLadder_12 (fun r m13 hp => ?_)
  rw [hp.1]
  have sm13 : zScr mem m13 := sm12.trans hp.2
  refine z_i2l (v := ((rv cm k) 4).toInt64) E dX6_digestLadder_15 rfl ?_
  refine z_callVv E hZ (k_digestOne l D am cI cR cS cL g11 m13 (((rv cm k) 4).toInt64)) gX6_digestLadder_X6_digestOne (n := 1) rfl rfl rfl (by decide +kernel) rfl ⟨(Nat.le_of_ble_eq_true rfl), (Nat.le_of_ble_eq_true rfl)⟩ (C := RX6) rfl 0 mw_obj (As := [.long (((rv cm k) 4).toInt64)]) (rest := []) rfl (Nat.le_of_ble_eq_true rfl) ⟨(Nat.le_of_ble_eq_true rfl), (Nat.le_of_ble_eq_true rfl)⟩ dX6_digestLadder_16 (fun u hp => ?_)
  rw [hp]
  obtain ⟨g14, hg14⟩ : ∃ x, x = 31 * g11 + (((rv cm k) 4).toInt64) := ⟨_, rfl⟩
  refine z_eq (ws' := mw am cI g14 m13) (lv' := [(2, .int 4), (0, .ref (am 0)), (1, .int (nI k))]) (st' := []) (by rw [hg14]) rfl rfl ?_
  refine z_gm2 (fun m15 hm15 => ?_)
  have sm15 : zScr mem m15 := by rw [hm15]; exact sm13
  refine z_iinc (v := 5) (lv' := [(2, .int 5), (0, .ref (am 0)), (1, .int (nI k))]) E dX6_digestLadder_19 (q := 0) rfl (by decide) (by decide) rfl ?_
  refine z_goto (tgt := 2) E dX6_digestLadder_22 (by decide) ?_
  refine z_iload_n E dX6_digestLadder_2 rfl 0 rfl ?_
  refine z_bipush (v := 11) E dX6_digestLadder_3 (by decide) ?_
  refine z_icmp_ge_f (tgt := 25) E dX6_digestLadder_5 (by decide) (by decide) ?_
  refine z_aload_n E dX6_digestLadder_8 rfl 1 rfl ?_
  refine z_aload_n E dX6_digestLadder_9 rfl 1 rfl ?_
  refine z_iload_n E dX6_digestLadder_10 rfl 2 rfl ?_
  refine z_iload_n E dX6_digestLadder_11 rfl 0 rfl ?_
  refine z_callVi E hZ (k_mof5 l D am cI cR cS cL g14 m15 hk (by rw [sm15.s]; exact hmR) hpp (hok k hk).1 ) gX6_digestLadder_X6_ofLadder (n := 2) rfl rfl rfl (by decide +kernel) rfl ⟨(Nat.le_of_ble_eq_true rfl), (Nat.le_of_ble_eq_true rfl)⟩ (C := RX6) rfl 0 mw_obj (As := [.int (nI k), .int (5)]) (rest := [.ref (am 0)]) rfl (Nat.le_of_ble_eq_true rfl) ⟨(Nat.le_of_ble_eq_true rfl), (Nat.le_of_ble_eq_true rfl)⟩ dX6_digestLadder_12 (fun r m16 hp => ?_)
  rw [hp.1]
  have sm16 : zScr mem m16 := sm15.trans hp.2
  refine z_i2l (v := ((rv cm k) 5).toInt64) E dX6_digestLadder_15 rfl ?_
  refine z_callVv E hZ (k_digestOne l D am cI cR cS cL g14 m16 (((rv cm k) 5).toInt64)) gX6_digestLadder_X6_digestOne (n := 1) rfl rfl rfl (by decide +kernel) rfl ⟨(Nat.le_of_ble_eq_true rfl), (Nat.le_of_ble_eq_true rfl)⟩ (C := RX6) rfl 0 mw_obj (As := [.long (((rv cm k) 5).toInt64)]) (rest := []) rfl (Nat.le_of_ble_eq_true rfl) ⟨(Nat.le_of_ble_eq_true rfl), (Nat.le_of_ble_eq_true rfl)⟩ dX6_digestLadder_16 (fun u hp => ?_)
  rw [hp]
  obtain ⟨g17, hg17⟩ : ∃ x, x = 31 * g14 + (((rv cm k) 5).toInt64) := ⟨_, rfl⟩
  refine z_eq (ws' := mw am cI g17 m16) (lv' := [(2, .int 5), (0, .ref (am 0)), (1, .int (nI k))]) (st' := []) (by rw [hg17]) rfl rfl ?_
  refine z_gm2 (fun m18 hm18 => ?_)
  have sm18 : zScr mem m18 := by rw [hm18]; exact sm16
  refine z_iinc (v := 6) (lv' := [(2, .int 6), (0, .ref (am 0)), (1, .int (nI k))]) E dX6_digestLadder_19 (q := 0) rfl (by decide) (by decide) rfl ?_
  refine z_goto (tgt := 2) E dX6_digestLadder_22 (by decide) ?_
  refine z_iload_n E dX6_digestLadder_2 rfl 0 rfl ?_
  refine z_bipush (v := 11) E dX6_digestLadder_3 (by decide) ?_
  refine z_icmp_ge_f (tgt := 25) E dX6_digestLadder_5 (by decide) (by decide) ?_
  refine z_aload_n E dX6_digestLadder_8 rfl 1 rfl ?_
  refine z_aload_n E dX6_digestLadder_9 rfl 1 rfl ?_
  refine z_iload_n E dX6_digestLadder_10 rfl 2 rfl ?_
  refine z_iload_n E dX6_digestLadder_11 rfl 0 rfl ?_
  refine z_callVi E hZ (k_mof6 l D am cI cR cS cL g17 m18 hk (by rw [sm18.s]; exact hmR) hpp (hok k hk).1 ) gX6_digestLadder_X6_ofLadder (n := 2) rfl rfl rfl (by decide +kernel) rfl ⟨(Nat.le_of_ble_eq_true rfl), (Nat.le_of_ble_eq_true rfl)⟩ (C := RX6) rfl 0 mw_obj (As := [.int (nI k), .int (6)]) (rest := [.ref (am 0)]) rfl (Nat.le_of_ble_eq_true rfl) ⟨(Nat.le_of_ble_eq_true rfl), (Nat.le_of_ble_eq_true rfl)⟩ dX6_digestLadder_12 (fun r m19 hp => ?_)
  rw [hp.1]
  have sm19 : zScr mem m19 := sm18.trans hp.2
  refine z_i2l (v := ((rv cm k) 7).toInt64) E dX6_digestLadder_15 rfl ?_
  refine z_callVv E hZ (k_digestOne l D am cI cR cS cL g17 m19 (((rv cm k) 7).toInt64)) gX6_digestLadder_X6_digestOne (n := 1) rfl rfl rfl (by decide +kernel) rfl ⟨(Nat.le_of_ble_eq_true rfl), (Nat.le_of_ble_eq_true rfl)⟩ (C := RX6) rfl 0 mw_obj (As := [.long (((rv cm k) 7).toInt64)]) (rest := []) rfl (Nat.le_of_ble_eq_true rfl) ⟨(Nat.le_of_ble_eq_true rfl), (Nat.le_of_ble_eq_true rfl)⟩ dX6_digestLadder_16 (fun u hp => ?_)
  rw [hp]
  obtain ⟨g20, hg20⟩ : ∃ x, x = 31 * g17 + (((rv cm k) 7).toInt64) := ⟨_, rfl⟩
  refine z_eq (ws' := mw am cI g20 m19) (lv' := [(2, .int 6), (0, .ref (am 0)), (1, .int (nI k))]) (st' := []) (by rw [hg20]) rfl rfl ?_
  refine z_gm2 (fun m21 hm21 => ?_)
  have sm21 : zScr mem m21 := by rw [hm21]; exact sm19
  refine z_iinc (v := 7) (lv' := [(2, .int 7), (0, .ref (am 0)), (1, .int (nI k))]) E dX6_digestLadder_19 (q := 0) rfl (by decide) (by decide) rfl ?_
  refine z_goto (tgt := 2) E dX6_digestLadder_22 (by decide) ?_
  refine z_iload_n E dX6_digestLadder_2 rfl 0 rfl ?_
  refine z_bipush (v := 11) E dX6_digestLadder_3 (by decide) ?_
  refine z_icmp_ge_f (tgt := 25) E dX6_digestLadder_5 (by decide) (by decide) ?_
  refine z_aload_n E dX6_digestLadder_8 rfl 1 rfl ?_
  refine z_aload_n E dX6_digestLadder_9 rfl 1 rfl ?_
  refine z_iload_n E dX6_digestLadder_10 rfl 2 rfl ?_
  refine z_iload_n E dX6_digestLadder_11 rfl 0 rfl ?_
  refine z_callVi E hZ (k_mof7 l D am cI cR cS cL g20 m21 hk (by rw [sm21.s]; exact hmR) hpp (hok k hk).1 ) gX6_digestLadder_X6_ofLadder (n := 2) rfl rfl rfl (by decide +kernel) rfl ⟨(Nat.le_of_ble_eq_true rfl), (Nat.le_of_ble_eq_true rfl)⟩ (C := RX6) rfl 0 mw_obj (As := [.int (nI k), .int (7)]) (rest := [.ref (am 0)]) rfl (Nat.le_of_ble_eq_true rfl) ⟨(Nat.le_of_ble_eq_true rfl), (Nat.le_of_ble_eq_true rfl)⟩ dX6_digestLadder_12 (fun r m22 hp => ?_)
  rw [hp.1]
  have sm22 : zScr mem m22 := sm21.trans hp.2
  refine z_i2l (v := (fLoad (rv cm k)).toInt64) E dX6_digestLadder_15 rfl ?_
  refine z_callVv E hZ (k_digestOne l D am cI cR cS cL g20 m22 ((fLoad (rv cm k)).toInt64)) gX6_digestLadder_X6_digestOne (n := 1) rfl rfl rfl (by decide +kernel) rfl ⟨(Nat.le_of_ble_eq_true rfl), (Nat.le_of_ble_eq_true rfl)⟩ (C := RX6) rfl 0 mw_obj (As := [.long ((fLoad (rv cm k)).toInt64)]) (rest := []) rfl (Nat.le_of_ble_eq_true rfl) ⟨(Nat.le_of_ble_eq_true rfl), (Nat.le_of_ble_eq_true rfl)⟩ dX6_digestLadder_16 (fun u hp => ?_)
  rw [hp]
  obtain ⟨g23, hg23⟩ : ∃ x, x = 31 * g20 + ((fLoad (rv cm k)).toInt64) := ⟨_, rfl⟩
  refine z_eq (ws' := mw am cI g23 m22) (lv' := [(2, .int 7), (0, .ref (am 0)), (1, .int (nI k))]) (st' := []) (by rw [hg23]) rfl rfl ?_
  refine z_gm2 (fun m24 hm24 => ?_)
  have sm24 : zScr mem m24 := by rw [hm24]; exact sm22
  refine z_iinc (v := 8) (lv' := [(2, .int 8), (0, .ref (am 0)), (1, .int (nI k))]) E dX6_digestLadder_19 (q := 0) rfl (by decide) (by decide) rfl ?_
  refine z_goto (tgt := 2) E dX6_digestLadder_22 (by decide) ?_
  refine z_iload_n E dX6_digestLadder_2 rfl 0 rfl ?_
  refine z_bipush (v := 11) E dX6_digestLadder_3 (by decide) ?_
  refine z_icmp_ge_f (tgt := 25) E dX6_digestLadder_5 (by decide) (by decide) ?_
  refine z_aload_n E dX6_digestLadder_8 rfl 1 rfl ?_
  refine z_aload_n E dX6_digestLadder_9 rfl 1 rfl ?_
  refine z_iload_n E dX6_digestLadder_10 rfl 2 rfl ?_
  refine z_iload_n E dX6_digestLadder_11 rfl 0 rfl ?_
  refine z_callVi E hZ (k_mof8 l D am cI cR cS cL g23 m24 hk (by rw [sm24.s]; exact hmR) hpp (hok k hk).1 ) gX6_digestLadder_X6_ofLadder (n := 2) rfl rfl rfl (by decide +kernel) rfl ⟨(Nat.le_of_ble_eq_true rfl), (Nat.le_of_ble_eq_true rfl)⟩ (C := RX6) rfl 0 mw_obj (As := [.int (nI k), .int (8)]) (rest := [.ref (am 0)]) rfl (Nat.le_of_ble_eq_true rfl) ⟨(Nat.le_of_ble_eq_true rfl), (Nat.le_of_ble_eq_true rfl)⟩ dX6_digestLadder_12 (fun r m25 hp => ?_)
  rw [hp.1]
  have sm25 : zScr mem m25 := sm24.trans hp.2
  refine z_i2l (v := (fMoment (rv cm k)).toInt64) E dX6_digestLadder_15 rfl ?_
  refine z_callVv E hZ (k_digestOne l D am cI cR cS cL g23 m25 ((fMoment (rv cm k)).toInt64)) gX6_digestLadder_X6_digestOne (n := 1) rfl rfl rfl (by decide +kernel) rfl ⟨(Nat.le_of_ble_eq_true rfl), (Nat.le_of_ble_eq_true rfl)⟩ (C := RX6) rfl 0 mw_obj (As := [.long ((fMoment (rv cm k)).toInt64)]) (rest := []) rfl (Nat.le_of_ble_eq_true rfl) ⟨(Nat.le_of_ble_eq_true rfl), (Nat.le_of_ble_eq_true rfl)⟩ dX6_digestLadder_16 (fun u hp => ?_)
  rw [hp]
  obtain ⟨g26, hg26⟩ : ∃ x, x = 31 * g23 + ((fMoment (rv cm k)).toInt64) := ⟨_, rfl⟩
  refine z_eq (ws' := mw am cI g26 m25) (lv' := [(2, .int 8), (0, .ref (am 0)), (1, .int (nI k))]) (st' := []) (by rw [hg26]) rfl rfl ?_
  refine z_gm2 (fun m27 hm27 => ?_)
  have sm27 : zScr mem m27 := by rw [hm27]; exact sm25
  refine z_iinc (v := 9) (lv' := [(2, .int 9), (0, .ref (am 0)), (1, .int (nI k))]) E dX6_digestLadder_19 (q := 0) rfl (by decide) (by decide) rfl ?_
  refine z_goto (tgt := 2) E dX6_digestLadder_22 (by decide) ?_
  refine z_iload_n E dX6_digestLadder_2 rfl 0 rfl ?_
  refine z_bipush (v := 11) E dX6_digestLadder_3 (by decide) ?_
  refine z_icmp_ge_f (tgt := 25) E dX6_digestLadder_5 (by decide) (by decide) ?_
  refine z_aload_n E dX6_digestLadder_8 rfl 1 rfl ?_
  refine z_aload_n E dX6_digestLadder_9 rfl 1 rfl ?_
  refine z_iload_n E dX6_digestLadder_10 rfl 2 rfl ?_
  refine z_iload_n E dX6_digestLadder_11 rfl 0 rfl ?_
  refine z_callVi E hZ (k_mof9 l D am cI cR cS cL g26 m27 hk (by rw [sm27.s]; exact hmR) hpp (hok k hk).1 ) gX6_digestLadder_X6_ofLadder (n := 2) rfl rfl rfl (by decide +kernel) rfl ⟨(Nat.le_of_ble_eq_true rfl), (Nat.le_of_ble_eq_true rfl)⟩ (C := RX6) rfl 0 mw_obj (As := [.int (nI k), .int (9)]) (rest := [.ref (am 0)]) rfl (Nat.le_of_ble_eq_true rfl) ⟨(Nat.le_of_ble_eq_true rfl), (Nat.le_of_ble_eq_true rfl)⟩ dX6_digestLadder_12 (fun r m28 hp => ?_)
  rw [hp.1]
  have sm28 : zScr mem m28 := sm27.trans hp.2
  refine z_i2l (v := ((rv cm k) 6).toInt64) E dX6_digestLadder_15 rfl ?_
  refine z_callVv E hZ (k_digestOne l D am cI cR cS cL g26 m28 (((rv cm k) 6).toInt64)) gX6_digestLadder_X6_digestOne (n := 1) rfl rfl rfl (by decide +kernel) rfl ⟨(Nat.le_of_ble_eq_true rfl), (Nat.le_of_ble_eq_true rfl)⟩ (C := RX6) rfl 0 mw_obj (As := [.long (((rv cm k) 6).toInt64)]) (rest := []) rfl (Nat.le_of_ble_eq_true rfl) ⟨(Nat.le_of_ble_eq_true rfl), (Nat.le_of_ble_eq_true rfl)⟩ dX6_digestLadder_16 (fun u hp => ?_)
  rw [hp]
  obtain ⟨g29, hg29⟩ : ∃ x, x = 31 * g26 + (((rv cm k) 6).toInt64) := ⟨_, rfl⟩
  refine z_eq (ws' := mw am cI g29 m28) (lv' := [(2, .int 9), (0, .ref (am 0)), (1, .int (nI k))]) (st' := []) (by rw [hg29]) rfl rfl ?_
  refine z_gm2 (fun m30 hm30 => ?_)
  have sm30 : zScr mem m30 := by rw [hm30]; exact sm28
  refine z_iinc (v := 10) (lv' := [(2, .int 10), (0, .ref (am 0)), (1, .int (nI k))]) E dX6_digestLadder_19 (q := 0) rfl (by decide) (by decide) rfl ?_
  refine z_goto (tgt := 2) E dX6_digestLadder_22 (by decide) ?_
  refine z_iload_n E dX6_digestLadder_2 rfl 0 rfl ?_
  refine z_bipush (v := 11) E dX6_digestLadder_3 (by decide) ?_
  refine z_icmp_ge_f (tgt := 25) E dX6_digestLadder_5 (by decide) (by decide) ?_
  refine z_aload_n E dX6_digestLadder_8 rfl 1 rfl ?_
  refine z_aload_n E dX6_digestLadder_9 rfl 1 rfl ?_
  refine z_iload_n E dX6_digestLadder_10 rfl 2 rfl ?_
  refine z_iload_n E dX6_digestLadder_11 rfl 0 rfl ?_
  refine z_callVi E hZ (k_mof10 l D am cI cR cS cL g29 m30 hk (by rw [sm30.s]; exact hmR) hpp (hok k hk).1 ) gX6_digestLadder_X6_ofLadder (n := 2) rfl rfl rfl (by decide +kernel) rfl ⟨(Nat.le_of_ble_eq_true rfl), (Nat.le_of_ble_eq_true rfl)⟩ (C := RX6) rfl 0 mw_obj (As := [.int (nI k), .int (10)]) (rest := [.ref (am 0)]) rfl (Nat.le_of_ble_eq_true rfl) ⟨(Nat.le_of_ble_eq_true rfl), (Nat.le_of_ble_eq_true rfl)⟩ dX6_digestLadder_12 (fun r m31 hp => ?_)
  rw [hp.1]
  have sm31 : zScr mem m31 := sm30.trans hp.2
  refine z_i2l (v := (fStands (rv cm k)).toInt64) E dX6_digestLadder_15 rfl ?_
  refine z_callVv E hZ (k_digestOne l D am cI cR cS cL g29 m31 ((fStands (rv cm k)).toInt64)) gX6_digestLadder_X6_digestOne (n := 1) rfl rfl rfl (by decide +kernel) rfl ⟨(Nat.le_of_ble_eq_true rfl), (Nat.le_of_ble_eq_true rfl)⟩ (C := RX6) rfl 0 mw_obj (As := [.long ((fStands (rv cm k)).toInt64)]) (rest := []) rfl (Nat.le_of_ble_eq_true rfl) ⟨(Nat.le_of_ble_eq_true rfl), (Nat.le_of_ble_eq_true rfl)⟩ dX6_digestLadder_16 (fun u hp => ?_)
  rw [hp]
  obtain ⟨g32, hg32⟩ : ∃ x, x = 31 * g29 + ((fStands (rv cm k)).toInt64) := ⟨_, rfl⟩
  refine z_eq (ws' := mw am cI g32 m31) (lv' := [(2, .int 10), (0, .ref (am 0)), (1, .int (nI k))]) (st' := []) (by rw [hg32]) rfl rfl ?_
  refine z_gm2 (fun m33 hm33 => ?_)
  have sm33 : zScr mem m33 := by rw [hm33]; exact sm31
  refine z_iinc (v := 11) (lv' := [(2, .int 11), (0, .ref (am 0)), (1, .int (nI k))]) E dX6_digestLadder_19 (q := 0) rfl (by decide) (by decide) rfl ?_
  refine z_goto (tgt := 2) E dX6_digestLadder_22 (by decide) ?_
  refine z_iload_n E dX6_digestLadder_2 rfl 0 rfl ?_
  refine z_bipush (v := 11) E dX6_digestLadder_3 (by decide) ?_
  refine z_icmp_ge_t (tgt := 25) E dX6_digestLadder_5 (by decide) (by decide) ?_
  have e1 : g32 = zMx dg (zLL (rv cm k)) := by rw [hg32, hg29, hg26, hg23, hg20, hg17, hg14, hg11, hg8, hg5, hg2]; rfl
  refine z_iconst (v := 0) E dX6_digestLadder_25 (by decide) ?_
  refine z_istore_n (lv' := [(2, .int 0), (0, .ref (am 0)), (1, .int (nI k))]) E dX6_digestLadder_26 rfl (by decide) rfl ?_
  refine z_iload_n E dX6_digestLadder_27 rfl 0 rfl ?_
  refine z_bipush (v := 6) E dX6_digestLadder_28 (by decide) ?_
  refine z_icmp_ge_f (tgt := 50) E dX6_digestLadder_30 (by decide) (by decide) ?_
  refine z_aload_n E dX6_digestLadder_33 rfl 1 rfl ?_
  refine z_aload_n E dX6_digestLadder_34 rfl 1 rfl ?_
  refine z_iload_n E dX6_digestLadder_35 rfl 2 rfl ?_
  refine z_iload_n E dX6_digestLadder_36 rfl 0 rfl ?_
  refine z_callVi E hZ (k_mfo0 l D am cI cR cS cL g32 m33 hk (by rw [sm33.s]; exact hmR) hpp (hok k hk).1 ) gX6_digestLadder_X6_ofForce (n := 2) rfl rfl rfl (by decide +kernel) rfl ⟨(Nat.le_of_ble_eq_true rfl), (Nat.le_of_ble_eq_true rfl)⟩ (C := RX6) rfl 0 mw_obj (As := [.int (nI k), .int (0)]) (rest := [.ref (am 0)]) rfl (Nat.le_of_ble_eq_true rfl) ⟨(Nat.le_of_ble_eq_true rfl), (Nat.le_of_ble_eq_true rfl)⟩ dX6_digestLadder_37 (fun r m34 hp => ?_)
  rw [hp.1]
  have sm34 : zScr mem m34 := sm33.trans hp.2
  refine z_i2l (v := (if fStands (rv cm k) = 0 then -1 else fLeast (rv cm k) + 1000).toInt64) E dX6_digestLadder_40 rfl ?_
  refine z_callVv E hZ (k_digestOne l D am cI cR cS cL g32 m34 ((if fStands (rv cm k) = 0 then -1 else fLeast (rv cm k) + 1000).toInt64)) gX6_digestLadder_X6_digestOne (n := 1) rfl rfl rfl (by decide +kernel) rfl ⟨(Nat.le_of_ble_eq_true rfl), (Nat.le_of_ble_eq_true rfl)⟩ (C := RX6) rfl 0 mw_obj (As := [.long ((if fStands (rv cm k) = 0 then -1 else fLeast (rv cm k) + 1000).toInt64)]) (rest := []) rfl (Nat.le_of_ble_eq_true rfl) ⟨(Nat.le_of_ble_eq_true rfl), (Nat.le_of_ble_eq_true rfl)⟩ dX6_digestLadder_41 (fun u hp => ?_)
  rw [hp]
  obtain ⟨g35, hg35⟩ : ∃ x, x = 31 * g32 + ((if fStands (rv cm k) = 0 then -1 else fLeast (rv cm k) + 1000).toInt64) := ⟨_, rfl⟩
  refine z_eq (ws' := mw am cI g35 m34) (lv' := [(2, .int 0), (0, .ref (am 0)), (1, .int (nI k))]) (st' := []) (by rw [hg35]) rfl rfl ?_
  refine z_gm2 (fun m36 hm36 => ?_)
  have sm36 : zScr mem m36 := by rw [hm36]; exact sm34
  refine z_iinc (v := 1) (lv' := [(2, .int 1), (0, .ref (am 0)), (1, .int (nI k))]) E dX6_digestLadder_44 (q := 0) rfl (by decide) (by decide) rfl ?_
  refine z_goto (tgt := 27) E dX6_digestLadder_47 (by decide) ?_
  refine z_iload_n E dX6_digestLadder_27 rfl 0 rfl ?_
  refine z_bipush (v := 6) E dX6_digestLadder_28 (by decide) ?_
  refine z_icmp_ge_f (tgt := 50) E dX6_digestLadder_30 (by decide) (by decide) ?_
  refine z_aload_n E dX6_digestLadder_33 rfl 1 rfl ?_
  refine z_aload_n E dX6_digestLadder_34 rfl 1 rfl ?_
  refine z_iload_n E dX6_digestLadder_35 rfl 2 rfl ?_
  refine z_iload_n E dX6_digestLadder_36 rfl 0 rfl ?_
  refine z_callVi E hZ (k_mfo1 l D am cI cR cS cL g35 m36 hk (by rw [sm36.s]; exact hmR) hpp (hok k hk).1 ) gX6_digestLadder_X6_ofForce (n := 2) rfl rfl rfl (by decide +kernel) rfl ⟨(Nat.le_of_ble_eq_true rfl), (Nat.le_of_ble_eq_true rfl)⟩ (C := RX6) rfl 0 mw_obj (As := [.int (nI k), .int (1)]) (rest := [.ref (am 0)]) rfl (Nat.le_of_ble_eq_true rfl) ⟨(Nat.le_of_ble_eq_true rfl), (Nat.le_of_ble_eq_true rfl)⟩ dX6_digestLadder_37 (fun r m37 hp => ?_)
  rw [hp.1]
  have sm37 : zScr mem m37 := sm36.trans hp.2
  refine z_i2l (v := (if fStands (rv cm k) = 0 then -1 else fGreat (rv cm k) + 1000).toInt64) E dX6_digestLadder_40 rfl ?_
  refine z_callVv E hZ (k_digestOne l D am cI cR cS cL g35 m37 ((if fStands (rv cm k) = 0 then -1 else fGreat (rv cm k) + 1000).toInt64)) gX6_digestLadder_X6_digestOne (n := 1) rfl rfl rfl (by decide +kernel) rfl ⟨(Nat.le_of_ble_eq_true rfl), (Nat.le_of_ble_eq_true rfl)⟩ (C := RX6) rfl 0 mw_obj (As := [.long ((if fStands (rv cm k) = 0 then -1 else fGreat (rv cm k) + 1000).toInt64)]) (rest := []) rfl (Nat.le_of_ble_eq_true rfl) ⟨(Nat.le_of_ble_eq_true rfl), (Nat.le_of_ble_eq_true rfl)⟩ dX6_digestLadder_41 (fun u hp => ?_)
  rw [hp]
  obtain ⟨g38, hg38⟩ : ∃ x, x = 31 * g35 + ((if fStands (rv cm k) = 0 then -1 else fGreat (rv cm k) + 1000).toInt64) := ⟨_, rfl⟩
  refine z_eq (ws' := mw am cI g38 m37) (lv' := [(2, .int 1), (0, .ref (am 0)), (1, .int (nI k))]) (st' := []) (by rw [hg38]) rfl rfl ?_
  refine z_gm2 (fun m39 hm39 => ?_)
  have sm39 : zScr mem m39 := by rw [hm39]; exact sm37
  refine z_iinc (v := 2) (lv' := [(2, .int 2), (0, .ref (am 0)), (1, .int (nI k))]) E dX6_digestLadder_44 (q := 0) rfl (by decide) (by decide) rfl ?_
  refine z_goto (tgt := 27) E dX6_digestLadder_47 (by decide) ?_
  refine z_iload_n E dX6_digestLadder_27 rfl 0 rfl ?_
  refine z_bipush (v := 6) E dX6_digestLadder_28 (by decide) ?_
  refine z_icmp_ge_f (tgt := 50) E dX6_digestLadder_30 (by decide) (by decide) ?_
  refine z_aload_n E dX6_digestLadder_33 rfl 1 rfl ?_
  refine z_aload_n E dX6_digestLadder_34 rfl 1 rfl ?_
  refine z_iload_n E dX6_digestLadder_35 rfl 2 rfl ?_
  refine z_iload_n E dX6_digestLadder_36 rfl 0 rfl ?_
  refine z_callVi E hZ (k_mfo2 l D am cI cR cS cL g38 m39 hk (by rw [sm39.s]; exact hmR) hpp (hok k hk).1 ) gX6_digestLadder_X6_ofForce (n := 2) rfl rfl rfl (by decide +kernel) rfl ⟨(Nat.le_of_ble_eq_true rfl), (Nat.le_of_ble_eq_true rfl)⟩ (C := RX6) rfl 0 mw_obj (As := [.int (nI k), .int (2)]) (rest := [.ref (am 0)]) rfl (Nat.le_of_ble_eq_true rfl) ⟨(Nat.le_of_ble_eq_true rfl), (Nat.le_of_ble_eq_true rfl)⟩ dX6_digestLadder_37 (fun r m40 hp => ?_)
  rw [hp.1]
  have sm40 : zScr mem m40 := sm39.trans hp.2
  refine z_i2l (v := (fForces (rv cm k)).toInt64) E dX6_digestLadder_40 rfl ?_
  refine z_callVv E hZ (k_digestOne l D am cI cR cS cL g38 m40 ((fForces (rv cm k)).toInt64)) gX6_digestLadder_X6_digestOne (n := 1) rfl rfl rfl (by decide +kernel) rfl ⟨(Nat.le_of_ble_eq_true rfl), (Nat.le_of_ble_eq_true rfl)⟩ (C := RX6) rfl 0 mw_obj (As := [.long ((fForces (rv cm k)).toInt64)]) (rest := []) rfl (Nat.le_of_ble_eq_true rfl) ⟨(Nat.le_of_ble_eq_true rfl), (Nat.le_of_ble_eq_true rfl)⟩ dX6_digestLadder_41 (fun u hp => ?_)
  rw [hp]
  obtain ⟨g41, hg41⟩ : ∃ x, x = 31 * g38 + ((fForces (rv cm k)).toInt64) := ⟨_, rfl⟩
  refine z_eq (ws' := mw am cI g41 m40) (lv' := [(2, .int 2), (0, .ref (am 0)), (1, .int (nI k))]) (st' := []) (by rw [hg41]) rfl rfl ?_
  refine z_gm2 (fun m42 hm42 => ?_)
  have sm42 : zScr mem m42 := by rw [hm42]; exact sm40
  refine z_iinc (v := 3) (lv' := [(2, .int 3), (0, .ref (am 0)), (1, .int (nI k))]) E dX6_digestLadder_44 (q := 0) rfl (by decide) (by decide) rfl ?_
  refine z_goto (tgt := 27) E dX6_digestLadder_47 (by decide) ?_
  refine z_iload_n E dX6_digestLadder_27 rfl 0 rfl ?_
  refine z_bipush (v := 6) E dX6_digestLadder_28 (by decide) ?_
  refine z_icmp_ge_f (tgt := 50) E dX6_digestLadder_30 (by decide) (by decide) ?_
  refine z_aload_n E dX6_digestLadder_33 rfl 1 rfl ?_
  refine z_aload_n E dX6_digestLadder_34 rfl 1 rfl ?_
  refine z_iload_n E dX6_digestLadder_35 rfl 2 rfl ?_
  refine z_iload_n E dX6_digestLadder_36 rfl 0 rfl ?_
  refine z_callVi E hZ (k_mfo3 l D am cI cR cS cL g41 m42 hk (by rw [sm42.s]; exact hmR) hpp (hok k hk).1 ) gX6_digestLadder_X6_ofForce (n := 2) rfl rfl rfl (by decide +kernel) rfl ⟨(Nat.le_of_ble_eq_true rfl), (Nat.le_of_ble_eq_true rfl)⟩ (C := RX6) rfl 0 mw_obj (As := [.int (nI k), .int (3)]) (rest := [.ref (am 0)]) rfl (Nat.le_of_ble_eq_true rfl) ⟨(Nat.le_of_ble_eq_true rfl), (Nat.le_of_ble_eq_true rfl)⟩ dX6_digestLadder_37 (fun r m43 hp => ?_)
  rw [hp.1]
  have sm43 : zScr mem m43 := sm42.trans hp.2
  refine z_i2l (v := (if fStands (rv cm k) = 0 then -1 else fNearest (rv cm k) + 1000).toInt64) E dX6_digestLadder_40 rfl ?_
  refine z_callVv E hZ (k_digestOne l D am cI cR cS cL g41 m43 ((if fStands (rv cm k) = 0 then -1 else fNearest (rv cm k) + 1000).toInt64)) gX6_digestLadder_X6_digestOne (n := 1) rfl rfl rfl (by decide +kernel) rfl ⟨(Nat.le_of_ble_eq_true rfl), (Nat.le_of_ble_eq_true rfl)⟩ (C := RX6) rfl 0 mw_obj (As := [.long ((if fStands (rv cm k) = 0 then -1 else fNearest (rv cm k) + 1000).toInt64)]) (rest := []) rfl (Nat.le_of_ble_eq_true rfl) ⟨(Nat.le_of_ble_eq_true rfl), (Nat.le_of_ble_eq_true rfl)⟩ dX6_digestLadder_41 (fun u hp => ?_)
  rw [hp]
  obtain ⟨g44, hg44⟩ : ∃ x, x = 31 * g41 + ((if fStands (rv cm k) = 0 then -1 else fNearest (rv cm k) + 1000).toInt64) := ⟨_, rfl⟩
  refine z_eq (ws' := mw am cI g44 m43) (lv' := [(2, .int 3), (0, .ref (am 0)), (1, .int (nI k))]) (st' := []) (by rw [hg44]) rfl rfl ?_
  refine z_gm2 (fun m45 hm45 => ?_)
  have sm45 : zScr mem m45 := by rw [hm45]; exact sm43
  refine z_iinc (v := 4) (lv' := [(2, .int 4), (0, .ref (am 0)), (1, .int (nI k))]) E dX6_digestLadder_44 (q := 0) rfl (by decide) (by decide) rfl ?_
  refine z_goto (tgt := 27) E dX6_digestLadder_47 (by decide) ?_
  refine z_iload_n E dX6_digestLadder_27 rfl 0 rfl ?_
  refine z_bipush (v := 6) E dX6_digestLadder_28 (by decide) ?_
  refine z_icmp_ge_f (tgt := 50) E dX6_digestLadder_30 (by decide) (by decide) ?_
  refine z_aload_n E dX6_digestLadder_33 rfl 1 rfl ?_
  refine z_aload_n E dX6_digestLadder_34 rfl 1 rfl ?_
  refine z_iload_n E dX6_digestLadder_35 rfl 2 rfl ?_
  refine z_iload_n E dX6_digestLadder_36 rfl 0 rfl ?_
  refine z_callVi E hZ (k_mfo4 l D am cI cR cS cL g44 m45 hk (by rw [sm45.s]; exact hmR) hpp (hok k hk).1 ) gX6_digestLadder_X6_ofForce (n := 2) rfl rfl rfl (by decide +kernel) rfl ⟨(Nat.le_of_ble_eq_true rfl), (Nat.le_of_ble_eq_true rfl)⟩ (C := RX6) rfl 0 mw_obj (As := [.int (nI k), .int (4)]) (rest := [.ref (am 0)]) rfl (Nat.le_of_ble_eq_true rfl) ⟨(Nat.le_of_ble_eq_true rfl), (Nat.le_of_ble_eq_true rfl)⟩ dX6_digestLadder_37 (fun r m46 hp => ?_)
  rw [hp.1]
  have sm46 : zScr mem m46 := sm45.trans hp.2
  refine z_i2l (v := (if fStands (rv cm k) = 0 then -1 else fPush (rv cm k) (fNearest (rv cm k))).toInt64) E dX6_digestLadder_40 rfl ?_
  refine z_callVv E hZ (k_digestOne l D am cI cR cS cL g44 m46 ((if fStands (rv cm k) = 0 then -1 else fPush (rv cm k) (fNearest (rv cm k))).toInt64)) gX6_digestLadder_X6_digestOne (n := 1) rfl rfl rfl (by decide +kernel) rfl ⟨(Nat.le_of_ble_eq_true rfl), (Nat.le_of_ble_eq_true rfl)⟩ (C := RX6) rfl 0 mw_obj (As := [.long ((if fStands (rv cm k) = 0 then -1 else fPush (rv cm k) (fNearest (rv cm k))).toInt64)]) (rest := []) rfl (Nat.le_of_ble_eq_true rfl) ⟨(Nat.le_of_ble_eq_true rfl), (Nat.le_of_ble_eq_true rfl)⟩ dX6_digestLadder_41 (fun u hp => ?_)
  rw [hp]
  obtain ⟨g47, hg47⟩ : ∃ x, x = 31 * g44 + ((if fStands (rv cm k) = 0 then -1 else fPush (rv cm k) (fNearest (rv cm k))).toInt64) := ⟨_, rfl⟩
  refine z_eq (ws' := mw am cI g47 m46) (lv' := [(2, .int 4), (0, .ref (am 0)), (1, .int (nI k))]) (st' := []) (by rw [hg47]) rfl rfl ?_
  refine z_gm2 (fun m48 hm48 => ?_)
  have sm48 : zScr mem m48 := by rw [hm48]; exact sm46
  refine z_iinc (v := 5) (lv' := [(2, .int 5), (0, .ref (am 0)), (1, .int (nI k))]) E dX6_digestLadder_44 (q := 0) rfl (by decide) (by decide) rfl ?_
  refine z_goto (tgt := 27) E dX6_digestLadder_47 (by decide) ?_
  refine z_iload_n E dX6_digestLadder_27 rfl 0 rfl ?_
  refine z_bipush (v := 6) E dX6_digestLadder_28 (by decide) ?_
  refine z_icmp_ge_f (tgt := 50) E dX6_digestLadder_30 (by decide) (by decide) ?_
  refine z_aload_n E dX6_digestLadder_33 rfl 1 rfl ?_
  refine z_aload_n E dX6_digestLadder_34 rfl 1 rfl ?_
  refine z_iload_n E dX6_digestLadder_35 rfl 2 rfl ?_
  refine z_iload_n E dX6_digestLadder_36 rfl 0 rfl ?_
  refine z_callVi E hZ (k_mfo5 l D am cI cR cS cL g47 m48 hk (by rw [sm48.s]; exact hmR) hpp (hok k hk).1 ) gX6_digestLadder_X6_ofForce (n := 2) rfl rfl rfl (by decide +kernel) rfl ⟨(Nat.le_of_ble_eq_true rfl), (Nat.le_of_ble_eq_true rfl)⟩ (C := RX6) rfl 0 mw_obj (As := [.int (nI k), .int (5)]) (rest := [.ref (am 0)]) rfl (Nat.le_of_ble_eq_true rfl) ⟨(Nat.le_of_ble_eq_true rfl), (Nat.le_of_ble_eq_true rfl)⟩ dX6_digestLadder_37 (fun r m49 hp => ?_)
  rw [hp.1]
  have sm49 : zScr mem m49 := sm48.trans hp.2
  refine z_i2l (v := (if fStands (rv cm k) = 0 then -1 else fLoad (rv cm k) - fNearest (rv cm k)).toInt64) E dX6_digestLadder_40 rfl ?_
  refine z_callVv E hZ (k_digestOne l D am cI cR cS cL g47 m49 ((if fStands (rv cm k) = 0 then -1 else fLoad (rv cm k) - fNearest (rv cm k)).toInt64)) gX6_digestLadder_X6_digestOne (n := 1) rfl rfl rfl (by decide +kernel) rfl ⟨(Nat.le_of_ble_eq_true rfl), (Nat.le_of_ble_eq_true rfl)⟩ (C := RX6) rfl 0 mw_obj (As := [.long ((if fStands (rv cm k) = 0 then -1 else fLoad (rv cm k) - fNearest (rv cm k)).toInt64)]) (rest := []) rfl (Nat.le_of_ble_eq_true rfl) ⟨(Nat.le_of_ble_eq_true rfl), (Nat.le_of_ble_eq_true rfl)⟩ dX6_digestLadder_41 (fun u hp => ?_)
  rw [hp]
  obtain ⟨g50, hg50⟩ : ∃ x, x = 31 * g47 + ((if fStands (rv cm k) = 0 then -1 else fLoad (rv cm k) - fNearest (rv cm k)).toInt64) := ⟨_, rfl⟩
  refine z_eq (ws' := mw am cI g50 m49) (lv' := [(2, .int 5), (0, .ref (am 0)), (1, .int (nI k))]) (st' := []) (by rw [hg50]) rfl rfl ?_
  refine z_gm2 (fun m51 hm51 => ?_)
  have sm51 : zScr mem m51 := by rw [hm51]; exact sm49
  refine z_iinc (v := 6) (lv' := [(2, .int 6), (0, .ref (am 0)), (1, .int (nI k))]) E dX6_digestLadder_44 (q := 0) rfl (by decide) (by decide) rfl ?_
  refine z_goto (tgt := 27) E dX6_digestLadder_47 (by decide) ?_
  refine z_iload_n E dX6_digestLadder_27 rfl 0 rfl ?_
  refine z_bipush (v := 6) E dX6_digestLadder_28 (by decide) ?_
  refine z_icmp_ge_t (tgt := 50) E dX6_digestLadder_30 (by decide) (by decide) ?_
  refine z_iconst (v := 0) E dX6_digestLadder_50 (by decide) ?_
  refine z_istore_n (lv' := [(2, .int 0), (0, .ref (am 0)), (1, .int (nI k))]) E dX6_digestLadder_51 rfl (by decide) rfl ?_
  have e2 : g50 = zMx g32 (zLF (rv cm k)) := by rw [hg50, hg47, hg44, hg41, hg38, hg35]; rfl
  refine z_loop (σ := zM × Int64 × Nat) (fun n y => y.2.2 + n = pp ∧ zScr mem y.1 ∧ y.2.1 = zMx g50 (zPers (rv cm k) y.2.2)) (fun y => mw am cI y.2.1 y.1) (fun y => [(2, .int (nI y.2.2)), (0, .ref (am 0)), (1, .int (nI k))]) 52 0 0 ?_ pp (m51, g50, 0) ⟨Nat.zero_add _, sm51, rfl⟩ rfl rfl rfl rfl rfl
  rintro n ⟨m, hh0, t⟩ ⟨htn, hsc, hh⟩ ih
  dsimp only at htn hsc hh ⊢
  have hm1 := hmR
  rw [← hsc.s] at hm1
  refine z_iload_n E dX6_digestLadder_52 rfl 0 rfl ?_
  refine z_aload_n E dX6_digestLadder_53 rfl 1 rfl ?_
  refine z_get E 0 mw_obj (C := RX6) (T := TX6) (N := 16) rfl (fun _ h => List.mem_cons_of_mem _ (List.mem_append_right _ h)) 1 (by decide) (List.mem_of_getElem? (i := 1) (by decide +kernel)) rfl (v := .ref (am 1)) rfl dX6_digestLadder_54 ?_
  refine z_iload_n E dX6_digestLadder_57 rfl 2 rfl ?_
  refine z_bipush (v := 6) E dX6_digestLadder_58 (by decide) ?_
  refine z_callSi E hZ (k_of l D am cI cR cS cL hh0 m (nI k) 6) gX6_digestLadder_X6_of (n := 2) rfl rfl rfl (by decide +kernel) rfl ⟨Nat.le_of_ble_eq_true rfl, Nat.le_of_ble_eq_true rfl⟩ (As := [.int (nI k), .int 6]) (rest := [.ref (am 1), .int (nI t)]) rfl (Nat.le_of_ble_eq_true rfl) ⟨Nat.le_of_ble_eq_true rfl, Nat.le_of_ble_eq_true rfl⟩ dX6_digestLadder_60 (fun r u hp => ?_)
  rw [hp.1, hp.2]
  rw [zof k (y := 6) (w := 6) rfl]
  refine z_iald E 1 0 mw_s rfl (vp_in_nI (by omega) (by decide)) (v := nI pp) ((congrArg (m 1) (nI_clamp (by omega))).trans hm1.2.2.2.2.2.2.1) dX6_digestLadder_63 ?_
  refine z_icmp_ge (tgt := 116) E dX6_digestLadder_64 (by decide) (fun c64 => ?_) (fun c64 => ?_)
  · skip
    have htp : t = pp := by have := hpp.1; have := (nI_leI (a := pp) (b := t) (by omega) (by omega)).mp c64; omega
    have e3 : hh0 = zMx g50 (zPers (rv cm k) pp) := by rw [hh, htp]
    refine z_aload_n E dX6_digestLadder_116 rfl 1 rfl ?_
    refine z_aload_n E dX6_digestLadder_117 rfl 1 rfl ?_
    refine z_iload_n E dX6_digestLadder_118 rfl 2 rfl ?_
    refine z_callVi E hZ (k_mropeFor l D am cI cR cS cL hh0 m hk (by rw [hsc.s]; exact hmR) hpp (hok k hk).1 ) gX6_digestLadder_X6_ropeFor (n := 1) rfl rfl rfl (by decide +kernel) rfl ⟨(Nat.le_of_ble_eq_true rfl), (Nat.le_of_ble_eq_true rfl)⟩ (C := RX6) rfl 0 mw_obj (As := [.int (nI k)]) (rest := [.ref (am 0)]) rfl (Nat.le_of_ble_eq_true rfl) ⟨(Nat.le_of_ble_eq_true rfl), (Nat.le_of_ble_eq_true rfl)⟩ dX6_digestLadder_119 (fun r m52 hp => ?_)
    rw [hp.1]
    have sm52 : zScr mem m52 := hsc.trans hp.2
    refine z_i2l (v := (fNR (rv cm k)).toInt64) E dX6_digestLadder_122 rfl ?_
    refine z_callVv E hZ (k_digestOne l D am cI cR cS cL hh0 m52 ((fNR (rv cm k)).toInt64)) gX6_digestLadder_X6_digestOne (n := 1) rfl rfl rfl (by decide +kernel) rfl ⟨(Nat.le_of_ble_eq_true rfl), (Nat.le_of_ble_eq_true rfl)⟩ (C := RX6) rfl 0 mw_obj (As := [.long ((fNR (rv cm k)).toInt64)]) (rest := []) rfl (Nat.le_of_ble_eq_true rfl) ⟨(Nat.le_of_ble_eq_true rfl), (Nat.le_of_ble_eq_true rfl)⟩ dX6_digestLadder_123 (fun u hp => ?_)
    rw [hp]
    obtain ⟨g53, hg53⟩ : ∃ x, x = 31 * hh0 + ((fNR (rv cm k)).toInt64) := ⟨_, rfl⟩
    refine z_eq (ws' := mw am cI g53 m52) (lv' := [(2, .int (nI t)), (0, .ref (am 0)), (1, .int (nI k))]) (st' := []) (by rw [hg53]) rfl rfl ?_
    refine z_gm2 (fun m54 hm54 => ?_)
    have sm54 : zScr mem m54 := by rw [hm54]; exact sm52
    refine z_aload_n E dX6_digestLadder_126 rfl 1 rfl ?_
    refine z_aload_n E dX6_digestLadder_127 rfl 1 rfl ?_
    refine z_iload_n E dX6_digestLadder_128 rfl 2 rfl ?_
    refine z_callVi E hZ (k_mbaseFor l D am cI cR cS cL g53 m54 hk (by rw [sm54.s]; exact hmR) hpp (hok k hk).1 ) gX6_digestLadder_X6_baseFor (n := 1) rfl rfl rfl (by decide +kernel) rfl ⟨(Nat.le_of_ble_eq_true rfl), (Nat.le_of_ble_eq_true rfl)⟩ (C := RX6) rfl 0 mw_obj (As := [.int (nI k)]) (rest := [.ref (am 0)]) rfl (Nat.le_of_ble_eq_true rfl) ⟨(Nat.le_of_ble_eq_true rfl), (Nat.le_of_ble_eq_true rfl)⟩ dX6_digestLadder_129 (fun r m55 hp => ?_)
    rw [hp.1]
    have sm55 : zScr mem m55 := sm54.trans hp.2
    refine z_i2l (v := (fBB (rv cm k)).toInt64) E dX6_digestLadder_132 rfl ?_
    refine z_callVv E hZ (k_digestOne l D am cI cR cS cL g53 m55 ((fBB (rv cm k)).toInt64)) gX6_digestLadder_X6_digestOne (n := 1) rfl rfl rfl (by decide +kernel) rfl ⟨(Nat.le_of_ble_eq_true rfl), (Nat.le_of_ble_eq_true rfl)⟩ (C := RX6) rfl 0 mw_obj (As := [.long ((fBB (rv cm k)).toInt64)]) (rest := []) rfl (Nat.le_of_ble_eq_true rfl) ⟨(Nat.le_of_ble_eq_true rfl), (Nat.le_of_ble_eq_true rfl)⟩ dX6_digestLadder_133 (fun u hp => ?_)
    rw [hp]
    obtain ⟨g56, hg56⟩ : ∃ x, x = 31 * g53 + ((fBB (rv cm k)).toInt64) := ⟨_, rfl⟩
    refine z_eq (ws' := mw am cI g56 m55) (lv' := [(2, .int (nI t)), (0, .ref (am 0)), (1, .int (nI k))]) (st' := []) (by rw [hg56]) rfl rfl ?_
    refine z_gm2 (fun m57 hm57 => ?_)
    have sm57 : zScr mem m57 := by rw [hm57]; exact sm55
    refine z_aload_n E dX6_digestLadder_136 rfl 1 rfl ?_
    refine z_aload_n E dX6_digestLadder_137 rfl 1 rfl ?_
    refine z_iload_n E dX6_digestLadder_138 rfl 2 rfl ?_
    refine z_callVi E hZ (k_mriskiestOf l D am cI cR cS cL g56 m57 hk (by rw [sm57.s]; exact hmR) hpp (hok k hk).1 ) gX6_digestLadder_X6_riskiestOf (n := 1) rfl rfl rfl (by decide +kernel) rfl ⟨(Nat.le_of_ble_eq_true rfl), (Nat.le_of_ble_eq_true rfl)⟩ (C := RX6) rfl 0 mw_obj (As := [.int (nI k)]) (rest := [.ref (am 0)]) rfl (Nat.le_of_ble_eq_true rfl) ⟨(Nat.le_of_ble_eq_true rfl), (Nat.le_of_ble_eq_true rfl)⟩ dX6_digestLadder_139 (fun r m58 hp => ?_)
    rw [hp.1]
    have sm58 : zScr mem m58 := sm57.trans hp.2
    refine z_i2l (v := (fRK (rv cm k)).toInt64) E dX6_digestLadder_142 rfl ?_
    refine z_callVv E hZ (k_digestOne l D am cI cR cS cL g56 m58 ((fRK (rv cm k)).toInt64)) gX6_digestLadder_X6_digestOne (n := 1) rfl rfl rfl (by decide +kernel) rfl ⟨(Nat.le_of_ble_eq_true rfl), (Nat.le_of_ble_eq_true rfl)⟩ (C := RX6) rfl 0 mw_obj (As := [.long ((fRK (rv cm k)).toInt64)]) (rest := []) rfl (Nat.le_of_ble_eq_true rfl) ⟨(Nat.le_of_ble_eq_true rfl), (Nat.le_of_ble_eq_true rfl)⟩ dX6_digestLadder_143 (fun u hp => ?_)
    rw [hp]
    obtain ⟨g59, hg59⟩ : ∃ x, x = 31 * g56 + ((fRK (rv cm k)).toInt64) := ⟨_, rfl⟩
    refine z_eq (ws' := mw am cI g59 m58) (lv' := [(2, .int (nI t)), (0, .ref (am 0)), (1, .int (nI k))]) (st' := []) (by rw [hg59]) rfl rfl ?_
    refine z_gm2 (fun m60 hm60 => ?_)
    have sm60 : zScr mem m60 := by rw [hm60]; exact sm58
    refine z_aload_n E dX6_digestLadder_146 rfl 1 rfl ?_
    refine z_aload_n E dX6_digestLadder_147 rfl 1 rfl ?_
    refine z_iload_n E dX6_digestLadder_148 rfl 2 rfl ?_
    refine z_callVi E hZ (k_mwallsFor l D am cI cR cS cL g59 m60 hk (by rw [sm60.s]; exact hmR) hpp (hok k hk).1 ) gX6_digestLadder_X6_wallsFor (n := 1) rfl rfl rfl (by decide +kernel) rfl ⟨(Nat.le_of_ble_eq_true rfl), (Nat.le_of_ble_eq_true rfl)⟩ (C := RX6) rfl 0 mw_obj (As := [.int (nI k)]) (rest := [.ref (am 0)]) rfl (Nat.le_of_ble_eq_true rfl) ⟨(Nat.le_of_ble_eq_true rfl), (Nat.le_of_ble_eq_true rfl)⟩ dX6_digestLadder_149 (fun r m61 hp => ?_)
    rw [hp.1]
    have sm61 : zScr mem m61 := sm60.trans hp.2
    refine z_i2l (v := (fWL (rv cm k)).toInt64) E dX6_digestLadder_152 rfl ?_
    refine z_callVv E hZ (k_digestOne l D am cI cR cS cL g59 m61 ((fWL (rv cm k)).toInt64)) gX6_digestLadder_X6_digestOne (n := 1) rfl rfl rfl (by decide +kernel) rfl ⟨(Nat.le_of_ble_eq_true rfl), (Nat.le_of_ble_eq_true rfl)⟩ (C := RX6) rfl 0 mw_obj (As := [.long ((fWL (rv cm k)).toInt64)]) (rest := []) rfl (Nat.le_of_ble_eq_true rfl) ⟨(Nat.le_of_ble_eq_true rfl), (Nat.le_of_ble_eq_true rfl)⟩ dX6_digestLadder_153 (fun u hp => ?_)
    rw [hp]
    obtain ⟨g62, hg62⟩ : ∃ x, x = 31 * g59 + ((fWL (rv cm k)).toInt64) := ⟨_, rfl⟩
    refine z_eq (ws' := mw am cI g62 m61) (lv' := [(2, .int (nI t)), (0, .ref (am 0)), (1, .int (nI k))]) (st' := []) (by rw [hg62]) rfl rfl ?_
    refine z_gm2 (fun m63 hm63 => ?_)
    have sm63 : zScr mem m63 := by rw [hm63]; exact sm61
    exact z_vretM E hr hlocks ((g62, m63)) rfl ⟨by unfold zLad; rw [zMx_app, zMx_app, zMx_app, ← e1, ← e2, ← e3]; show g62 = _; rw [hg62, hg59, hg56, hg53]; rfl, sm63⟩ (Nat.le_of_ble_eq_true rfl) (Nat.le_of_ble_eq_true rfl) dX6_digestLadder_156
  · skip
    obtain ⟨n, rfl⟩ : ∃ n1, n = n1 + 1 := ⟨n - 1, by have := hpp.1; have := zklt (k := t) (L := pp) (by omega) (by omega) c64; omega⟩
    have ht : t < pp := by omega
    have ht3 : t < 3 := by have := hpp.1; omega
    have w8 := (hm1.2.2.2.2.2.2.2.2 t ht).1
    have w9 := (hm1.2.2.2.2.2.2.2.2 t ht).2
    refine z_aload_n E dX6_digestLadder_67 rfl 1 rfl ?_
    refine z_aload_n E dX6_digestLadder_68 rfl 1 rfl ?_
    refine z_get E 0 mw_obj (C := RX6) (T := TX6) (N := 16) rfl (fun _ h => List.mem_cons_of_mem _ (List.mem_append_right _ h)) 1 (by decide) (List.mem_of_getElem? (i := 1) (by decide +kernel)) rfl (v := .ref (am 1)) rfl dX6_digestLadder_69 ?_
    refine z_iload_n E dX6_digestLadder_72 rfl 2 rfl ?_
    refine z_iload_n E dX6_digestLadder_73 rfl 0 rfl ?_
    refine z_iconst (v := 0) E dX6_digestLadder_74 (by decide) ?_
    refine z_callSi E hZ (k_ofP l D am cI cR cS cL hh0 m (nI k) (nI t) 0) gX6_digestLadder_X6_ofPerson (n := 3) rfl rfl rfl (by decide +kernel) rfl ⟨Nat.le_of_ble_eq_true rfl, Nat.le_of_ble_eq_true rfl⟩ (As := [.int (nI k), .int (nI t), .int 0]) (rest := [.ref (am 1), .ref (am 0)]) rfl (Nat.le_of_ble_eq_true rfl) ⟨Nat.le_of_ble_eq_true rfl, Nat.le_of_ble_eq_true rfl⟩ dX6_digestLadder_75 (fun r u hp => ?_)
    rw [hp.1, hp.2]
    rw [zofP k t (y := nI t) (z := 0) (w := 0) (N := 14 * k + 8 + 2 * t) rfl rfl (by omega)]
    refine z_iald E 1 0 mw_s rfl (vp_in_nI (by omega) (by decide)) (v := rv cm k (8 + t)) ((congrArg (m 1) (nI_clamp (by omega))).trans w8) dX6_digestLadder_78 ?_
    refine z_i2l (v := (rv cm k (8 + t)).toInt64) E dX6_digestLadder_79 rfl ?_
    refine z_callVv E hZ (k_digestOne l D am cI cR cS cL hh0 m ((rv cm k (8 + t)).toInt64)) gX6_digestLadder_X6_digestOne (n := 1) rfl rfl rfl (by decide +kernel) rfl ⟨(Nat.le_of_ble_eq_true rfl), (Nat.le_of_ble_eq_true rfl)⟩ (C := RX6) rfl 0 mw_obj (As := [.long ((rv cm k (8 + t)).toInt64)]) (rest := []) rfl (Nat.le_of_ble_eq_true rfl) ⟨(Nat.le_of_ble_eq_true rfl), (Nat.le_of_ble_eq_true rfl)⟩ dX6_digestLadder_80 (fun u hp => ?_)
    rw [hp]
    obtain ⟨g64, hg64⟩ : ∃ x, x = 31 * hh0 + ((rv cm k (8 + t)).toInt64) := ⟨_, rfl⟩
    refine z_eq (ws' := mw am cI g64 m) (lv' := [(2, .int (nI t)), (0, .ref (am 0)), (1, .int (nI k))]) (st' := []) (by rw [hg64]) rfl rfl ?_
    refine z_gm2 (fun m65 hm65 => ?_)
    have sm65 : zScr mem m65 := by rw [hm65]; exact hsc
    have w9b : m65 1 (14 * k + 9 + 2 * t) = rv cm k (11 + t) := by rw [hm65]; exact w9
    refine z_aload_n E dX6_digestLadder_83 rfl 1 rfl ?_
    refine z_aload_n E dX6_digestLadder_84 rfl 1 rfl ?_
    refine z_get E 0 mw_obj (C := RX6) (T := TX6) (N := 16) rfl (fun _ h => List.mem_cons_of_mem _ (List.mem_append_right _ h)) 1 (by decide) (List.mem_of_getElem? (i := 1) (by decide +kernel)) rfl (v := .ref (am 1)) rfl dX6_digestLadder_85 ?_
    refine z_iload_n E dX6_digestLadder_88 rfl 2 rfl ?_
    refine z_iload_n E dX6_digestLadder_89 rfl 0 rfl ?_
    refine z_iconst (v := 1) E dX6_digestLadder_90 (by decide) ?_
    refine z_callSi E hZ (k_ofP l D am cI cR cS cL g64 m65 (nI k) (nI t) 1) gX6_digestLadder_X6_ofPerson (n := 3) rfl rfl rfl (by decide +kernel) rfl ⟨Nat.le_of_ble_eq_true rfl, Nat.le_of_ble_eq_true rfl⟩ (As := [.int (nI k), .int (nI t), .int 1]) (rest := [.ref (am 1), .ref (am 0)]) rfl (Nat.le_of_ble_eq_true rfl) ⟨Nat.le_of_ble_eq_true rfl, Nat.le_of_ble_eq_true rfl⟩ dX6_digestLadder_91 (fun r u hp => ?_)
    rw [hp.1, hp.2]
    rw [zofP k t (y := nI t) (z := 1) (w := 1) (N := 14 * k + 9 + 2 * t) rfl rfl (by omega)]
    refine z_iald E 1 0 mw_s rfl (vp_in_nI (by omega) (by decide)) (v := rv cm k (11 + t)) ((congrArg (m65 1) (nI_clamp (by omega))).trans w9b) dX6_digestLadder_94 ?_
    refine z_i2l (v := (rv cm k (11 + t)).toInt64) E dX6_digestLadder_95 rfl ?_
    refine z_callVv E hZ (k_digestOne l D am cI cR cS cL g64 m65 ((rv cm k (11 + t)).toInt64)) gX6_digestLadder_X6_digestOne (n := 1) rfl rfl rfl (by decide +kernel) rfl ⟨(Nat.le_of_ble_eq_true rfl), (Nat.le_of_ble_eq_true rfl)⟩ (C := RX6) rfl 0 mw_obj (As := [.long ((rv cm k (11 + t)).toInt64)]) (rest := []) rfl (Nat.le_of_ble_eq_true rfl) ⟨(Nat.le_of_ble_eq_true rfl), (Nat.le_of_ble_eq_true rfl)⟩ dX6_digestLadder_96 (fun u hp => ?_)
    rw [hp]
    obtain ⟨g66, hg66⟩ : ∃ x, x = 31 * g64 + ((rv cm k (11 + t)).toInt64) := ⟨_, rfl⟩
    refine z_eq (ws' := mw am cI g66 m65) (lv' := [(2, .int (nI t)), (0, .ref (am 0)), (1, .int (nI k))]) (st' := []) (by rw [hg66]) rfl rfl ?_
    refine z_gm2 (fun m67 hm67 => ?_)
    have sm67 : zScr mem m67 := by rw [hm67]; exact sm65
    refine z_aload_n E dX6_digestLadder_99 rfl 1 rfl ?_
    refine z_aload_n E dX6_digestLadder_100 rfl 1 rfl ?_
    refine z_iload_n E dX6_digestLadder_101 rfl 2 rfl ?_
    refine z_iload_n E dX6_digestLadder_102 rfl 0 rfl ?_
    refine z_callVi E hZ (k_mhighestOf l D am cI cR cS cL g66 m67 hk (by rw [sm67.s]; exact hmR) hpp (hok k hk).1 ht) gX6_digestLadder_X6_highestOf (n := 2) rfl rfl rfl (by decide +kernel) rfl ⟨(Nat.le_of_ble_eq_true rfl), (Nat.le_of_ble_eq_true rfl)⟩ (C := RX6) rfl 0 mw_obj (As := [.int (nI k), .int (nI t)]) (rest := [.ref (am 0)]) rfl (Nat.le_of_ble_eq_true rfl) ⟨(Nat.le_of_ble_eq_true rfl), (Nat.le_of_ble_eq_true rfl)⟩ dX6_digestLadder_103 (fun r m68 hp => ?_)
    rw [hp.1]
    have sm68 : zScr mem m68 := sm67.trans hp.2
    refine z_i2l (v := (fHi (rv cm k) t).toInt64) E dX6_digestLadder_106 rfl ?_
    refine z_callVv E hZ (k_digestOne l D am cI cR cS cL g66 m68 ((fHi (rv cm k) t).toInt64)) gX6_digestLadder_X6_digestOne (n := 1) rfl rfl rfl (by decide +kernel) rfl ⟨(Nat.le_of_ble_eq_true rfl), (Nat.le_of_ble_eq_true rfl)⟩ (C := RX6) rfl 0 mw_obj (As := [.long ((fHi (rv cm k) t).toInt64)]) (rest := []) rfl (Nat.le_of_ble_eq_true rfl) ⟨(Nat.le_of_ble_eq_true rfl), (Nat.le_of_ble_eq_true rfl)⟩ dX6_digestLadder_107 (fun u hp => ?_)
    rw [hp]
    obtain ⟨g69, hg69⟩ : ∃ x, x = 31 * g66 + ((fHi (rv cm k) t).toInt64) := ⟨_, rfl⟩
    refine z_eq (ws' := mw am cI g69 m68) (lv' := [(2, .int (nI t)), (0, .ref (am 0)), (1, .int (nI k))]) (st' := []) (by rw [hg69]) rfl rfl ?_
    refine z_gm2 (fun m70 hm70 => ?_)
    have sm70 : zScr mem m70 := by rw [hm70]; exact sm68
    refine z_iinc (v := nI t + 1) (lv' := [(2, .int (nI t + 1)), (0, .ref (am 0)), (1, .int (nI k))]) E dX6_digestLadder_110 (q := 0) rfl rfl (by decide) rfl ?_
    refine z_goto (tgt := 52) E dX6_digestLadder_113 (by decide) ?_
    refine z_eq (ws' := mw am cI g69 m70) (lv' := [(2, .int (nI (t + 1))), (0, .ref (am 0)), (1, .int (nI k))]) (st' := []) rfl (by rw [← nI_1 t]) rfl ?_
    exact ih n (m70, g69, t + 1) (by omega) ⟨by show t + 1 + n = pp; omega, sm70, by show g69 = zMx g50 (zPers (rv cm k) (t + 1)); rw [zPers_s, zMx_app, ← hh, hg69, hg66, hg64]; rfl⟩
