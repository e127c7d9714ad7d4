/-! the reference: looks -/
theorem zR_scr {B : Nat} {c mm u : zM} {q z L : Nat} (h : zR B c mm q z L) (hs : zScr mm u) : zR B c u q z L := zR_fld h hs.s hs.fr.1 hs.fr.2.1 (hs.2 3 (by omega)) (hs.2 5 (by omega))
theorem zSl_lt (q z i : Nat) : zSl q z i + 1 < 7 := Nat.succ_lt_succ (Nat.mod_lt _ (by omega))
/-- the trial rig alone has changed -/
theorem zR_tr {B : Nat} {c c' mm : zM} {q z L : Nat} (h : zR B c mm q z L) (ht : zTr c c') : zR B c' mm q z L := by
  obtain ⟨a1, ⟨b1, b2, b3, b4, b5, b6⟩, d1, d2, d3, d4⟩ := h
  have key : ∀ t s, t < 7 → zSite B c t s → zSite B c' t s := fun t s ht7 hs => zSite_congr (Nat.le_refl B) (fun k hk => ht.rv (by omega)) (fun _ _ => rfl) (by rw [ht _ (by omega)]) (by rw [ht _ (by omega)]) hs
  refine ⟨key 0 _ (by omega) a1, ⟨b1, b2, by rw [ht _ (by omega)]; exact b3, by rw [ht _ (by omega)]; exact b4, b5, fun i hi => key _ _ (zSl_lt q z i) (b6 i hi)⟩, d1, by rw [ht _ (by omega)]; exact d2, d3, fun i hi => by rw [ht 104 (by omega)]; exact d4 i hi⟩
def mAnsL (cd : String → Int32) (S : String ⊕ Int32) (r w : Int32) : Prop := (∃ E, S = .inl E ∧ w = cd E) ∨ (∃ v, S = .inr v ∧ w = 0 ∧ r = v)
theorem dHeld2 {cm : zM} {k : Nat} (hk : k < 4) (f : Int32) (hf : ¬ (f < -1000 ∨ 1000 < f)) : sHeld cm (nI k) f = (.inr (fWGW (rv cm k) f), cm) := by
  unfold sHeld
  rw [nI_clamp (by omega)]
  exact (if_neg (zk4 hk)).trans (if_neg hf)
theorem sLadder_bw {cm : zM} {x g : Int32} (hL : ¬ (x < 0 ∨ 4 ≤ x)) (hg : g < 0 ∨ 10 < g) : sLadder cm x g = (.inl "java/lang/IllegalArgumentException", cm) := (if_neg hL).trans ((if_neg (fun e => by rw [e] at hg; exact absurd hg (by decide))).trans ((if_neg (fun e => by rw [e] at hg; exact absurd hg (by decide))).trans ((if_neg (fun e => by rw [e] at hg; exact absurd hg (by decide))).trans ((if_neg (fun e => by rw [e] at hg; exact absurd hg (by decide))).trans ((if_neg (fun e => by rw [e] at hg; exact absurd hg (by decide))).trans ((if_neg (fun e => by rw [e] at hg; exact absurd hg (by decide))).trans ((if_neg (fun e => by rw [e] at hg; exact absurd hg (by decide))).trans ((if_neg (fun e => by rw [e] at hg; exact absurd hg (by decide))).trans ((if_neg (fun e => by rw [e] at hg; exact absurd hg (by decide))).trans ((if_neg (fun e => by rw [e] at hg; exact absurd hg (by decide))).trans (if_neg (fun e => by rw [e] at hg; exact absurd hg (by decide)))))))))))))
theorem sCount_bw {cm : zM} {g : Int32} (hg : g < 0 ∨ 5 < g) : sCount cm g = (.inl "java/lang/IllegalArgumentException", cm) := (if_neg (fun e => by rw [e] at hg; exact absurd hg (by decide))).trans ((if_neg (fun e => by rw [e] at hg; exact absurd hg (by decide))).trans ((if_neg (fun e => by rw [e] at hg; exact absurd hg (by decide))).trans ((if_neg (fun e => by rw [e] at hg; exact absurd hg (by decide))).trans ((if_neg (fun e => by rw [e] at hg; exact absurd hg (by decide))).trans (if_neg (fun e => by rw [e] at hg; exact absurd hg (by decide)))))))
theorem sPerson_bw {cm : zM} {x b g : Int32} (hL : ¬ (x < 0 ∨ 4 ≤ x)) (hb : ¬ fBears (rv cm x.toNatClampNeg) b = 0) (hg : g < 0 ∨ 1 < g) : sPerson cm x b g = (.inl "java/lang/IllegalArgumentException", cm) := (if_neg hL).trans ((if_neg hb).trans ((if_neg (fun e => by rw [e] at hg; exact absurd hg (by decide))).trans (if_neg (fun e => by rw [e] at hg; exact absurd hg (by decide)))))
set_option maxHeartbeats 1000000 in
set_option maxRecDepth 100000 in
theorem k_mladder (l : Launch) (D : va_G) (am : Nat → Nat) (cI cR cS cL : ClassId) (dg : Int64) (mem : zM) {B : Nat} {cm : zM} {q z L : Nat} (hR : zR B cm mem q z L) (x g : Int32) : zMi l yX6_ladder wsX6_ladder ({ frames := 5, cells := 0, slots := 0, locals := 119 }) D (cK cI cR cS cL) [.ref (am 0), .int x, .int g] (mw am cI dg mem) (fun r u => mAns cdL (fun c' => ∃ q' z', zR (B + 180) c' u q' z' L) (sLadder cm x g) r (u 0 0)) (mw am cI dg) 0 0 := by
  refine zMiM.of (cc := cX6_ladder) (maxL := 3) (ret := (some .int)) (by decide +kernel) rfl (lv0 := [(0, .ref (am 0)), (1, .int x), (2, .int g)]) (Nat.le_of_ble_eq_true rfl) rfl ?_
  intro p e s m args below meth c E hZ hr hlocks hnm
  refine z_aload_n E dX6_ladder_0 rfl 0 rfl ?_
  refine z_iload_n E dX6_ladder_1 rfl 1 rfl ?_
  refine z_callSi E hZ (k_isLadder l D am cI cR cS cL dg mem x) gX6_ladder_X6_isLadder (n := 1) rfl rfl rfl (by decide +kernel) rfl ⟨Nat.le_of_ble_eq_true rfl, Nat.le_of_ble_eq_true rfl⟩ (As := [.int x]) (rest := [.ref (am 0)]) rfl (Nat.le_of_ble_eq_true rfl) ⟨Nat.le_of_ble_eq_true rfl, Nat.le_of_ble_eq_true rfl⟩ dX6_ladder_2 (fun r u hp => ?_)
  rw [hp.1, hp.2]
  by_cases hL : x < 0 ∨ 4 ≤ x
  · skip
    rw [fIn_L0 hL]
    refine z_if_ne_f (tgt := 12) E dX6_ladder_5 (by decide) (by decide) ?_
    refine z_iconst (v := 1) E dX6_ladder_8 (by decide) ?_
    refine z_goto (tgt := 27) E dX6_ladder_9 (by decide) ?_
    refine z_callVi E hZ (k_holds l D am cI cR cS cL dg mem 1) gX6_ladder_X6_holds (n := 1) rfl rfl rfl (by decide +kernel) rfl ⟨(Nat.le_of_ble_eq_true rfl), (Nat.le_of_ble_eq_true rfl)⟩ (C := RX6) rfl 0 mw_obj (As := [.int 1]) (rest := []) rfl (Nat.le_of_ble_eq_true rfl) ⟨(Nat.le_of_ble_eq_true rfl), (Nat.le_of_ble_eq_true rfl)⟩ dX6_ladder_27 (fun r m1 hp => ?_)
    have hm1 := hp.2
    rw [hp.1, show (if (1 : Int32) = 0 then (1 : Int32) else 0) = 0 by decide]
    have hR0 : zR B cm m1 q z L := zR_fld hR (by rw [hm1, mset_ne _ _ _ (by decide)]) (by rw [hm1, mset_ne _ _ _ (by decide)]) (by rw [hm1, mset_ne _ _ _ (by decide)]) (by rw [hm1, mset_ne2 _ _ (by decide)]) (by rw [hm1, mset_ne2 _ _ (by decide)])
    have hth : m1 0 0 = 1 := by rw [hm1, mset_at]
    refine z_if_eq_t (tgt := 42) E dX6_ladder_30 (by decide) (by decide) ?_
    refine z_iconst (v := 0) E dX6_ladder_42 (by decide) ?_
    exact z_iretM E hr hlocks (m1) rfl (Or.inl ⟨"java/lang/IndexOutOfBoundsException", cm, if_pos hL, hth, q, z, zR_mono (by omega) hR0⟩) (Nat.le_of_ble_eq_true rfl) (Nat.le_of_ble_eq_true rfl) dX6_ladder_43
  · skip
    rw [fIn_L1 hL]
    obtain ⟨k, hk, rfl⟩ := zx4 hL
    have ek : (nI k).toNatClampNeg = k := nI_clamp (by omega)
    refine z_if_ne_t (tgt := 12) E dX6_ladder_5 (by decide) (by decide) ?_
    refine z_iload_n E dX6_ladder_12 rfl 2 rfl ?_
    refine z_iconst (v := 0) E dX6_ladder_13 (by decide) ?_
    refine z_bipush (v := 10) E dX6_ladder_14 (by decide) ?_
    refine z_callSi E hZ (k_in l D am cI cR cS cL dg mem g 0 10) gX6_ladder_X6_in (n := 3) rfl rfl rfl (by decide +kernel) rfl ⟨Nat.le_of_ble_eq_true rfl, Nat.le_of_ble_eq_true rfl⟩ (As := [.int g, .int 0, .int 10]) (rest := [.ref (am 0)]) rfl (Nat.le_of_ble_eq_true rfl) ⟨Nat.le_of_ble_eq_true rfl, Nat.le_of_ble_eq_true rfl⟩ dX6_ladder_16 (fun r u hp => ?_)
    rw [hp.1, hp.2]
    by_cases hg : g < 0 ∨ 10 < g
    · skip
      rw [fIn_0 hg]
      refine z_if_ne_f (tgt := 26) E dX6_ladder_19 (by decide) (by decide) ?_
      refine z_iconst (v := 2) E dX6_ladder_22 (by decide) ?_
      refine z_goto (tgt := 27) E dX6_ladder_23 (by decide) ?_
      refine z_callVi E hZ (k_holds l D am cI cR cS cL dg mem 2) gX6_ladder_X6_holds (n := 1) rfl rfl rfl (by decide +kernel) rfl ⟨(Nat.le_of_ble_eq_true rfl), (Nat.le_of_ble_eq_true rfl)⟩ (C := RX6) rfl 0 mw_obj (As := [.int 2]) (rest := []) rfl (Nat.le_of_ble_eq_true rfl) ⟨(Nat.le_of_ble_eq_true rfl), (Nat.le_of_ble_eq_true rfl)⟩ dX6_ladder_27 (fun r m2 hp => ?_)
      have hm2 := hp.2
      rw [hp.1, show (if (2 : Int32) = 0 then (1 : Int32) else 0) = 0 by decide]
      have hR0 : zR B cm m2 q z L := zR_fld hR (by rw [hm2, mset_ne _ _ _ (by decide)]) (by rw [hm2, mset_ne _ _ _ (by decide)]) (by rw [hm2, mset_ne _ _ _ (by decide)]) (by rw [hm2, mset_ne2 _ _ (by decide)]) (by rw [hm2, mset_ne2 _ _ (by decide)])
      have hth : m2 0 0 = 2 := by rw [hm2, mset_at]
      refine z_if_eq_t (tgt := 42) E dX6_ladder_30 (by decide) (by decide) ?_
      refine z_iconst (v := 0) E dX6_ladder_42 (by decide) ?_
      exact z_iretM E hr hlocks (m2) rfl (Or.inl ⟨"java/lang/IllegalArgumentException", cm, sLadder_bw hL hg, hth, q, z, zR_mono (by omega) hR0⟩) (Nat.le_of_ble_eq_true rfl) (Nat.le_of_ble_eq_true rfl) dX6_ladder_43
    · skip
      rw [fIn_1 hg]
      refine z_if_ne_t (tgt := 26) E dX6_ladder_19 (by decide) (by decide) ?_
      refine z_iconst (v := 0) E dX6_ladder_26 (by decide) ?_
      refine z_callVi E hZ (k_holds l D am cI cR cS cL dg mem 0) gX6_ladder_X6_holds (n := 1) rfl rfl rfl (by decide +kernel) rfl ⟨(Nat.le_of_ble_eq_true rfl), (Nat.le_of_ble_eq_true rfl)⟩ (C := RX6) rfl 0 mw_obj (As := [.int 0]) (rest := []) rfl (Nat.le_of_ble_eq_true rfl) ⟨(Nat.le_of_ble_eq_true rfl), (Nat.le_of_ble_eq_true rfl)⟩ dX6_ladder_27 (fun r m3 hp => ?_)
      have hm3 := hp.2
      rw [hp.1, show (if (0 : Int32) = 0 then (1 : Int32) else 0) = 1 by decide]
      have hR0 : zR B cm m3 q z L := zR_fld hR (by rw [hm3, mset_ne _ _ _ (by decide)]) (by rw [hm3, mset_ne _ _ _ (by decide)]) (by rw [hm3, mset_ne _ _ _ (by decide)]) (by rw [hm3, mset_ne2 _ _ (by decide)]) (by rw [hm3, mset_ne2 _ _ (by decide)])
      have hth : m3 0 0 = 0 := by rw [hm3, mset_at]
      refine z_if_eq_f (tgt := 42) E dX6_ladder_30 (by decide) (by decide) ?_
      refine z_aload_n E dX6_ladder_33 rfl 0 rfl ?_
      refine z_iload_n E dX6_ladder_34 rfl 1 rfl ?_
      refine z_iload_n E dX6_ladder_35 rfl 2 rfl ?_
      obtain ⟨hokX, hSX⟩ := zSite_0 hR0.1
      obtain ⟨p0, hpp, hmX⟩ := hSX.1 k hk
      obtain ⟨j, hj, hje⟩ := zin_nI (n := 10) (by decide) hg
      rcases (show j = 0 ∨ j = 1 ∨ j = 2 ∨ j = 3 ∨ j = 4 ∨ j = 5 ∨ j = 6 ∨ j = 7 ∨ j = 8 ∨ j = 9 ∨ j = 10 by omega) with hjj | hjj | hjj | hjj | hjj | hjj | hjj | hjj | hjj | hjj | hjj
      · skip
        have hgi : g = 0 := by rw [hje, hjj]; rfl
        clear hje hjj
        subst hgi
        refine z_callVi E hZ (k_mof0 l D am cI cR cS cL dg m3 hk hmX hpp (hokX k hk).1) gX6_ladder_X6_ofLadder (n := 2) rfl rfl rfl (by decide +kernel) rfl ⟨(Nat.le_of_ble_eq_true rfl), (Nat.le_of_ble_eq_true rfl)⟩ (C := RX6) rfl 0 mw_obj (As := [.int (nI k), .int (0)]) (rest := []) rfl (Nat.le_of_ble_eq_true rfl) ⟨(Nat.le_of_ble_eq_true rfl), (Nat.le_of_ble_eq_true rfl)⟩ dX6_ladder_36 (fun r m4 hp => ?_)
        rw [hp.1]
        have hR2 := zR_scr hR0 hp.2
        have hth2 : m4 0 0 = 0 := by rw [hp.2.2 0 (by omega)]; exact hth
        refine z_goto (tgt := 43) E dX6_ladder_39 (by decide) ?_
        exact z_iretM E hr hlocks (m4) rfl (Or.inr ⟨_, _, (dLad0 zTr.rfl' hk), hth2, rfl, q, z, zR_mono (by omega) hR2⟩) (Nat.le_of_ble_eq_true rfl) (Nat.le_of_ble_eq_true rfl) dX6_ladder_43
      · skip
        have hgi : g = 1 := by rw [hje, hjj]; rfl
        clear hje hjj
        subst hgi
        refine z_callVi E hZ (k_mof1 l D am cI cR cS cL dg m3 hk hmX hpp (hokX k hk).1) gX6_ladder_X6_ofLadder (n := 2) rfl rfl rfl (by decide +kernel) rfl ⟨(Nat.le_of_ble_eq_true rfl), (Nat.le_of_ble_eq_true rfl)⟩ (C := RX6) rfl 0 mw_obj (As := [.int (nI k), .int (1)]) (rest := []) rfl (Nat.le_of_ble_eq_true rfl) ⟨(Nat.le_of_ble_eq_true rfl), (Nat.le_of_ble_eq_true rfl)⟩ dX6_ladder_36 (fun r m5 hp => ?_)
        rw [hp.1]
        have hR2 := zR_scr hR0 hp.2
        have hth2 : m5 0 0 = 0 := by rw [hp.2.2 0 (by omega)]; exact hth
        refine z_goto (tgt := 43) E dX6_ladder_39 (by decide) ?_
        exact z_iretM E hr hlocks (m5) rfl (Or.inr ⟨_, _, (dLad1 zTr.rfl' hk), hth2, rfl, q, z, zR_mono (by omega) hR2⟩) (Nat.le_of_ble_eq_true rfl) (Nat.le_of_ble_eq_true rfl) dX6_ladder_43
      · skip
        have hgi : g = 2 := by rw [hje, hjj]; rfl
        clear hje hjj
        subst hgi
        refine z_callVi E hZ (k_mof2 l D am cI cR cS cL dg m3 hk hmX hpp (hokX k hk).1) gX6_ladder_X6_ofLadder (n := 2) rfl rfl rfl (by decide +kernel) rfl ⟨(Nat.le_of_ble_eq_true rfl), (Nat.le_of_ble_eq_true rfl)⟩ (C := RX6) rfl 0 mw_obj (As := [.int (nI k), .int (2)]) (rest := []) rfl (Nat.le_of_ble_eq_true rfl) ⟨(Nat.le_of_ble_eq_true rfl), (Nat.le_of_ble_eq_true rfl)⟩ dX6_ladder_36 (fun r m6 hp => ?_)
        rw [hp.1]
        have hR2 := zR_scr hR0 hp.2
        have hth2 : m6 0 0 = 0 := by rw [hp.2.2 0 (by omega)]; exact hth
        refine z_goto (tgt := 43) E dX6_ladder_39 (by decide) ?_
        exact z_iretM E hr hlocks (m6) rfl (Or.inr ⟨_, _, (dLad2 zTr.rfl' hk), hth2, rfl, q, z, zR_mono (by omega) hR2⟩) (Nat.le_of_ble_eq_true rfl) (Nat.le_of_ble_eq_true rfl) dX6_ladder_43
      · skip
        have hgi : g = 3 := by rw [hje, hjj]; rfl
        clear hje hjj
        subst hgi
        refine z_callVi E hZ (k_mof3 l D am cI cR cS cL dg m3 hk hmX hpp (hokX k hk).1) gX6_ladder_X6_ofLadder (n := 2) rfl rfl rfl (by decide +kernel) rfl ⟨(Nat.le_of_ble_eq_true rfl), (Nat.le_of_ble_eq_true rfl)⟩ (C := RX6) rfl 0 mw_obj (As := [.int (nI k), .int (3)]) (rest := []) rfl (Nat.le_of_ble_eq_true rfl) ⟨(Nat.le_of_ble_eq_true rfl), (Nat.le_of_ble_eq_true rfl)⟩ dX6_ladder_36 (fun r m7 hp => ?_)
        rw [hp.1]
        have hR2 := zR_scr hR0 hp.2
        have hth2 : m7 0 0 = 0 := by rw [hp.2.2 0 (by omega)]; exact hth
        refine z_goto (tgt := 43) E dX6_ladder_39 (by decide) ?_
        exact z_iretM E hr hlocks (m7) rfl (Or.inr ⟨_, _, (dLad3 zTr.rfl' hk), hth2, rfl, q, z, zR_mono (by omega) hR2⟩) (Nat.le_of_ble_eq_true rfl) (Nat.le_of_ble_eq_true rfl) dX6_ladder_43
      · skip
        have hgi : g = 4 := by rw [hje, hjj]; rfl
        clear hje hjj
        subst hgi
        refine z_callVi E hZ (k_mof4 l D am cI cR cS cL dg m3 hk hmX hpp (hokX k hk).1) gX6_ladder_X6_ofLadder (n := 2) rfl rfl rfl (by decide +kernel) rfl ⟨(Nat.le_of_ble_eq_true rfl), (Nat.le_of_ble_eq_true rfl)⟩ (C := RX6) rfl 0 mw_obj (As := [.int (nI k), .int (4)]) (rest := []) rfl (Nat.le_of_ble_eq_true rfl) ⟨(Nat.le_of_ble_eq_true rfl), (Nat.le_of_ble_eq_true rfl)⟩ dX6_ladder_36 (fun r m8 hp => ?_)
        rw [hp.1]
        have hR2 := zR_scr hR0 hp.2
        have hth2 : m8 0 0 = 0 := by rw [hp.2.2 0 (by omega)]; exact hth
        refine z_goto (tgt := 43) E dX6_ladder_39 (by decide) ?_
        exact z_iretM E hr hlocks (m8) rfl (Or.inr ⟨_, _, (dLad4 zTr.rfl' hk), hth2, rfl, q, z, zR_mono (by omega) hR2⟩) (Nat.le_of_ble_eq_true rfl) (Nat.le_of_ble_eq_true rfl) dX6_ladder_43
      · skip
        have hgi : g = 5 := by rw [hje, hjj]; rfl
        clear hje hjj
        subst hgi
        refine z_callVi E hZ (k_mof5 l D am cI cR cS cL dg m3 hk hmX hpp (hokX k hk).1) gX6_ladder_X6_ofLadder (n := 2) rfl rfl rfl (by decide +kernel) rfl ⟨(Nat.le_of_ble_eq_true rfl), (Nat.le_of_ble_eq_true rfl)⟩ (C := RX6) rfl 0 mw_obj (As := [.int (nI k), .int (5)]) (rest := []) rfl (Nat.le_of_ble_eq_true rfl) ⟨(Nat.le_of_ble_eq_true rfl), (Nat.le_of_ble_eq_true rfl)⟩ dX6_ladder_36 (fun r m9 hp => ?_)
        rw [hp.1]
        have hR2 := zR_scr hR0 hp.2
        have hth2 : m9 0 0 = 0 := by rw [hp.2.2 0 (by omega)]; exact hth
        refine z_goto (tgt := 43) E dX6_ladder_39 (by decide) ?_
        exact z_iretM E hr hlocks (m9) rfl (Or.inr ⟨_, _, (dLad5 zTr.rfl' hk), hth2, rfl, q, z, zR_mono (by omega) hR2⟩) (Nat.le_of_ble_eq_true rfl) (Nat.le_of_ble_eq_true rfl) dX6_ladder_43
      · skip
        have hgi : g = 6 := by rw [hje, hjj]; rfl
        clear hje hjj
        subst hgi
        refine z_callVi E hZ (k_mof6 l D am cI cR cS cL dg m3 hk hmX hpp (hokX k hk).1) gX6_ladder_X6_ofLadder (n := 2) rfl rfl rfl (by decide +kernel) rfl ⟨(Nat.le_of_ble_eq_true rfl), (Nat.le_of_ble_eq_true rfl)⟩ (C := RX6) rfl 0 mw_obj (As := [.int (nI k), .int (6)]) (rest := []) rfl (Nat.le_of_ble_eq_true rfl) ⟨(Nat.le_of_ble_eq_true rfl), (Nat.le_of_ble_eq_true rfl)⟩ dX6_ladder_36 (fun r m10 hp => ?_)
        rw [hp.1]
        have hR2 := zR_scr hR0 hp.2
        have hth2 : m10 0 0 = 0 := by rw [hp.2.2 0 (by omega)]; exact hth
        refine z_goto (tgt := 43) E dX6_ladder_39 (by decide) ?_
        exact z_iretM E hr hlocks (m10) rfl (Or.inr ⟨_, _, (dLad6 zTr.rfl' hk), hth2, rfl, q, z, zR_mono (by omega) hR2⟩) (Nat.le_of_ble_eq_true rfl) (Nat.le_of_ble_eq_true rfl) dX6_ladder_43
      · skip
        have hgi : g = 7 := by rw [hje, hjj]; rfl
        clear hje hjj
        subst hgi
        refine z_callVi E hZ (k_mof7 l D am cI cR cS cL dg m3 hk hmX hpp (hokX k hk).1) gX6_ladder_X6_ofLadder (n := 2) rfl rfl rfl (by decide +kernel) rfl ⟨(Nat.le_of_ble_eq_true rfl), (Nat.le_of_ble_eq_true rfl)⟩ (C := RX6) rfl 0 mw_obj (As := [.int (nI k), .int (7)]) (rest := []) rfl (Nat.le_of_ble_eq_true rfl) ⟨(Nat.le_of_ble_eq_true rfl), (Nat.le_of_ble_eq_true rfl)⟩ dX6_ladder_36 (fun r m11 hp => ?_)
        rw [hp.1]
        have hR2 := zR_scr hR0 hp.2
        have hth2 : m11 0 0 = 0 := by rw [hp.2.2 0 (by omega)]; exact hth
        refine z_goto (tgt := 43) E dX6_ladder_39 (by decide) ?_
        exact z_iretM E hr hlocks (m11) rfl (Or.inr ⟨_, _, (dLad7 zTr.rfl' hk), hth2, rfl, q, z, zR_mono (by omega) hR2⟩) (Nat.le_of_ble_eq_true rfl) (Nat.le_of_ble_eq_true rfl) dX6_ladder_43
      · skip
        have hgi : g = 8 := by rw [hje, hjj]; rfl
        clear hje hjj
        subst hgi
        refine z_callVi E hZ (k_mof8 l D am cI cR cS cL dg m3 hk hmX hpp (hokX k hk).1) gX6_ladder_X6_ofLadder (n := 2) rfl rfl rfl (by decide +kernel) rfl ⟨(Nat.le_of_ble_eq_true rfl), (Nat.le_of_ble_eq_true rfl)⟩ (C := RX6) rfl 0 mw_obj (As := [.int (nI k), .int (8)]) (rest := []) rfl (Nat.le_of_ble_eq_true rfl) ⟨(Nat.le_of_ble_eq_true rfl), (Nat.le_of_ble_eq_true rfl)⟩ dX6_ladder_36 (fun r m12 hp => ?_)
        rw [hp.1]
        have hR2 := zR_scr hR0 hp.2
        have hth2 : m12 0 0 = 0 := by rw [hp.2.2 0 (by omega)]; exact hth
        refine z_goto (tgt := 43) E dX6_ladder_39 (by decide) ?_
        exact z_iretM E hr hlocks (m12) rfl (Or.inr ⟨_, _, (dLad8 zTr.rfl' hk), hth2, rfl, q, z, zR_mono (by omega) hR2⟩) (Nat.le_of_ble_eq_true rfl) (Nat.le_of_ble_eq_true rfl) dX6_ladder_43
      · skip
        have hgi : g = 9 := by rw [hje, hjj]; rfl
        clear hje hjj
        subst hgi
        refine z_callVi E hZ (k_mof9 l D am cI cR cS cL dg m3 hk hmX hpp (hokX k hk).1) gX6_ladder_X6_ofLadder (n := 2) rfl rfl rfl (by decide +kernel) rfl ⟨(Nat.le_of_ble_eq_true rfl), (Nat.le_of_ble_eq_true rfl)⟩ (C := RX6) rfl 0 mw_obj (As := [.int (nI k), .int (9)]) (rest := []) rfl (Nat.le_of_ble_eq_true rfl) ⟨(Nat.le_of_ble_eq_true rfl), (Nat.le_of_ble_eq_true rfl)⟩ dX6_ladder_36 (fun r m13 hp => ?_)
        rw [hp.1]
        have hR2 := zR_scr hR0 hp.2
        have hth2 : m13 0 0 = 0 := by rw [hp.2.2 0 (by omega)]; exact hth
        refine z_goto (tgt := 43) E dX6_ladder_39 (by decide) ?_
        exact z_iretM E hr hlocks (m13) rfl (Or.inr ⟨_, _, (dLad9 zTr.rfl' hk), hth2, rfl, q, z, zR_mono (by omega) hR2⟩) (Nat.le_of_ble_eq_true rfl) (Nat.le_of_ble_eq_true rfl) dX6_ladder_43
      · skip
        have hgi : g = 10 := by rw [hje, hjj]; rfl
        clear hje hjj
        subst hgi
        refine z_callVi E hZ (k_mof10 l D am cI cR cS cL dg m3 hk hmX hpp (hokX k hk).1) gX6_ladder_X6_ofLadder (n := 2) rfl rfl rfl (by decide +kernel) rfl ⟨(Nat.le_of_ble_eq_true rfl), (Nat.le_of_ble_eq_true rfl)⟩ (C := RX6) rfl 0 mw_obj (As := [.int (nI k), .int (10)]) (rest := []) rfl (Nat.le_of_ble_eq_true rfl) ⟨(Nat.le_of_ble_eq_true rfl), (Nat.le_of_ble_eq_true rfl)⟩ dX6_ladder_36 (fun r m14 hp => ?_)
        rw [hp.1]
        have hR2 := zR_scr hR0 hp.2
        have hth2 : m14 0 0 = 0 := by rw [hp.2.2 0 (by omega)]; exact hth
        refine z_goto (tgt := 43) E dX6_ladder_39 (by decide) ?_
        exact z_iretM E hr hlocks (m14) rfl (Or.inr ⟨_, _, (dLad10 zTr.rfl' hk), hth2, rfl, q, z, zR_mono (by omega) hR2⟩) (Nat.le_of_ble_eq_true rfl) (Nat.le_of_ble_eq_true rfl) dX6_ladder_43
set_option maxHeartbeats 1000000 in
set_option maxRecDepth 100000 in
theorem k_mforce (l : Launch) (D : va_G) (am : Nat → Nat) (cI cR cS cL : ClassId) (dg : Int64) (mem : zM) {B : Nat} {cm : zM} {q z L : Nat} (hR : zR B cm mem q z L) (x g : Int32) : zMi l yX6_force wsX6_force ({ frames := 4, cells := 0, slots := 0, locals := 99 }) D (cK cI cR cS cL) [.ref (am 0), .int x, .int g] (mw am cI dg mem) (fun r u => mAns cdL (fun c' => ∃ q' z', zR (B + 180) c' u q' z' L) (sForce cm x g) r (u 0 0)) (mw am cI dg) 0 0 := by
  refine zMiM.of (cc := cX6_force) (maxL := 3) (ret := (some .int)) (by decide +kernel) rfl (lv0 := [(0, .ref (am 0)), (1, .int x), (2, .int g)]) (Nat.le_of_ble_eq_true rfl) rfl ?_
  intro p e s m args below meth c E hZ hr hlocks hnm
  refine z_aload_n E dX6_force_0 rfl 0 rfl ?_
  refine z_iload_n E dX6_force_1 rfl 1 rfl ?_
  refine z_callSi E hZ (k_isLadder l D am cI cR cS cL dg mem x) gX6_force_X6_isLadder (n := 1) rfl rfl rfl (by decide +kernel) rfl ⟨Nat.le_of_ble_eq_true rfl, Nat.le_of_ble_eq_true rfl⟩ (As := [.int x]) (rest := [.ref (am 0)]) rfl (Nat.le_of_ble_eq_true rfl) ⟨Nat.le_of_ble_eq_true rfl, Nat.le_of_ble_eq_true rfl⟩ dX6_force_2 (fun r u hp => ?_)
  rw [hp.1, hp.2]
  by_cases hL : x < 0 ∨ 4 ≤ x
  · skip
    rw [fIn_L0 hL]
    refine z_if_ne_f (tgt := 12) E dX6_force_5 (by decide) (by decide) ?_
    refine z_iconst (v := 1) E dX6_force_8 (by decide) ?_
    refine z_goto (tgt := 26) E dX6_force_9 (by decide) ?_
    refine z_callVi E hZ (k_holds l D am cI cR cS cL dg mem 1) gX6_force_X6_holds (n := 1) rfl rfl rfl (by decide +kernel) rfl ⟨(Nat.le_of_ble_eq_true rfl), (Nat.le_of_ble_eq_true rfl)⟩ (C := RX6) rfl 0 mw_obj (As := [.int 1]) (rest := []) rfl (Nat.le_of_ble_eq_true rfl) ⟨(Nat.le_of_ble_eq_true rfl), (Nat.le_of_ble_eq_true rfl)⟩ dX6_force_26 (fun r m1 hp => ?_)
    have hm1 := hp.2
    rw [hp.1, show (if (1 : Int32) = 0 then (1 : Int32) else 0) = 0 by decide]
    have hR0 : zR B cm m1 q z L := zR_fld hR (by rw [hm1, mset_ne _ _ _ (by decide)]) (by rw [hm1, mset_ne _ _ _ (by decide)]) (by rw [hm1, mset_ne _ _ _ (by decide)]) (by rw [hm1, mset_ne2 _ _ (by decide)]) (by rw [hm1, mset_ne2 _ _ (by decide)])
    have hth : m1 0 0 = 1 := by rw [hm1, mset_at]
    refine z_if_eq_t (tgt := 41) E dX6_force_29 (by decide) (by decide) ?_
    refine z_iconst (v := 0) E dX6_force_41 (by decide) ?_
    exact z_iretM E hr hlocks (m1) rfl (Or.inl ⟨"java/lang/IndexOutOfBoundsException", cm, (if_pos hL), hth, q, z, zR_mono (by omega) hR0⟩) (Nat.le_of_ble_eq_true rfl) (Nat.le_of_ble_eq_true rfl) dX6_force_42
  · skip
    rw [fIn_L1 hL]
    obtain ⟨k, hk, rfl⟩ := zx4 hL
    have ek : (nI k).toNatClampNeg = k := nI_clamp (by omega)
    refine z_if_ne_t (tgt := 12) E dX6_force_5 (by decide) (by decide) ?_
    refine z_iload_n E dX6_force_12 rfl 2 rfl ?_
    refine z_iconst (v := 0) E dX6_force_13 (by decide) ?_
    refine z_iconst (v := 5) E dX6_force_14 (by decide) ?_
    refine z_callSi E hZ (k_in l D am cI cR cS cL dg mem g 0 5) gX6_force_X6_in (n := 3) rfl rfl rfl (by decide +kernel) rfl ⟨Nat.le_of_ble_eq_true rfl, Nat.le_of_ble_eq_true rfl⟩ (As := [.int g, .int 0, .int 5]) (rest := [.ref (am 0)]) rfl (Nat.le_of_ble_eq_true rfl) ⟨Nat.le_of_ble_eq_true rfl, Nat.le_of_ble_eq_true rfl⟩ dX6_force_15 (fun r u hp => ?_)
    rw [hp.1, hp.2]
    by_cases hg : g < 0 ∨ 5 < g
    · skip
      rw [fIn_0 hg]
      refine z_if_ne_f (tgt := 25) E dX6_force_18 (by decide) (by decide) ?_
      refine z_iconst (v := 2) E dX6_force_21 (by decide) ?_
      refine z_goto (tgt := 26) E dX6_force_22 (by decide) ?_
      refine z_callVi E hZ (k_holds l D am cI cR cS cL dg mem 2) gX6_force_X6_holds (n := 1) rfl rfl rfl (by decide +kernel) rfl ⟨(Nat.le_of_ble_eq_true rfl), (Nat.le_of_ble_eq_true rfl)⟩ (C := RX6) rfl 0 mw_obj (As := [.int 2]) (rest := []) rfl (Nat.le_of_ble_eq_true rfl) ⟨(Nat.le_of_ble_eq_true rfl), (Nat.le_of_ble_eq_true rfl)⟩ dX6_force_26 (fun r m2 hp => ?_)
      have hm2 := hp.2
      rw [hp.1, show (if (2 : Int32) = 0 then (1 : Int32) else 0) = 0 by decide]
      have hR0 : zR B cm m2 q z L := zR_fld hR (by rw [hm2, mset_ne _ _ _ (by decide)]) (by rw [hm2, mset_ne _ _ _ (by decide)]) (by rw [hm2, mset_ne _ _ _ (by decide)]) (by rw [hm2, mset_ne2 _ _ (by decide)]) (by rw [hm2, mset_ne2 _ _ (by decide)])
      have hth : m2 0 0 = 2 := by rw [hm2, mset_at]
      refine z_if_eq_t (tgt := 41) E dX6_force_29 (by decide) (by decide) ?_
      refine z_iconst (v := 0) E dX6_force_41 (by decide) ?_
      exact z_iretM E hr hlocks (m2) rfl (Or.inl ⟨"java/lang/IllegalArgumentException", cm, ((if_neg hL).trans (if_pos hg)), hth, q, z, zR_mono (by omega) hR0⟩) (Nat.le_of_ble_eq_true rfl) (Nat.le_of_ble_eq_true rfl) dX6_force_42
    · skip
      rw [fIn_1 hg]
      refine z_if_ne_t (tgt := 25) E dX6_force_18 (by decide) (by decide) ?_
      refine z_iconst (v := 0) E dX6_force_25 (by decide) ?_
      refine z_callVi E hZ (k_holds l D am cI cR cS cL dg mem 0) gX6_force_X6_holds (n := 1) rfl rfl rfl (by decide +kernel) rfl ⟨(Nat.le_of_ble_eq_true rfl), (Nat.le_of_ble_eq_true rfl)⟩ (C := RX6) rfl 0 mw_obj (As := [.int 0]) (rest := []) rfl (Nat.le_of_ble_eq_true rfl) ⟨(Nat.le_of_ble_eq_true rfl), (Nat.le_of_ble_eq_true rfl)⟩ dX6_force_26 (fun r m3 hp => ?_)
      have hm3 := hp.2
      rw [hp.1, show (if (0 : Int32) = 0 then (1 : Int32) else 0) = 1 by decide]
      have hR0 : zR B cm m3 q z L := zR_fld hR (by rw [hm3, mset_ne _ _ _ (by decide)]) (by rw [hm3, mset_ne _ _ _ (by decide)]) (by rw [hm3, mset_ne _ _ _ (by decide)]) (by rw [hm3, mset_ne2 _ _ (by decide)]) (by rw [hm3, mset_ne2 _ _ (by decide)])
      have hth : m3 0 0 = 0 := by rw [hm3, mset_at]
      refine z_if_eq_f (tgt := 41) E dX6_force_29 (by decide) (by decide) ?_
      refine z_aload_n E dX6_force_32 rfl 0 rfl ?_
      refine z_iload_n E dX6_force_33 rfl 1 rfl ?_
      refine z_iload_n E dX6_force_34 rfl 2 rfl ?_
      obtain ⟨hokX, hSX⟩ := zSite_0 hR0.1
      obtain ⟨p0, hpp, hmX⟩ := hSX.1 k hk
      obtain ⟨j, hj, hje⟩ := zin_nI (n := 5) (by decide) hg
      rcases (show j = 0 ∨ j = 1 ∨ j = 2 ∨ j = 3 ∨ j = 4 ∨ j = 5 by omega) with hjj | hjj | hjj | hjj | hjj | hjj
      · skip
        have hgi : g = 0 := by rw [hje, hjj]; rfl
        clear hje hjj
        subst hgi
        refine z_callVi E hZ (k_mfo0 l D am cI cR cS cL dg m3 hk hmX hpp (hokX k hk).1) gX6_force_X6_ofForce (n := 2) rfl rfl rfl (by decide +kernel) rfl ⟨(Nat.le_of_ble_eq_true rfl), (Nat.le_of_ble_eq_true rfl)⟩ (C := RX6) rfl 0 mw_obj (As := [.int (nI k), .int (0)]) (rest := []) rfl (Nat.le_of_ble_eq_true rfl) ⟨(Nat.le_of_ble_eq_true rfl), (Nat.le_of_ble_eq_true rfl)⟩ dX6_force_35 (fun r m4 hp => ?_)
        rw [hp.1]
        have hR2 := zR_scr hR0 hp.2
        have hth2 : m4 0 0 = 0 := by rw [hp.2.2 0 (by omega)]; exact hth
        refine z_goto (tgt := 42) E dX6_force_38 (by decide) ?_
        exact z_iretM E hr hlocks (m4) rfl (Or.inr ⟨_, _, (dFor0 zTr.rfl' hk), hth2, rfl, q, z, zR_mono (by omega) hR2⟩) (Nat.le_of_ble_eq_true rfl) (Nat.le_of_ble_eq_true rfl) dX6_force_42
      · skip
        have hgi : g = 1 := by rw [hje, hjj]; rfl
        clear hje hjj
        subst hgi
        refine z_callVi E hZ (k_mfo1 l D am cI cR cS cL dg m3 hk hmX hpp (hokX k hk).1) gX6_force_X6_ofForce (n := 2) rfl rfl rfl (by decide +kernel) rfl ⟨(Nat.le_of_ble_eq_true rfl), (Nat.le_of_ble_eq_true rfl)⟩ (C := RX6) rfl 0 mw_obj (As := [.int (nI k), .int (1)]) (rest := []) rfl (Nat.le_of_ble_eq_true rfl) ⟨(Nat.le_of_ble_eq_true rfl), (Nat.le_of_ble_eq_true rfl)⟩ dX6_force_35 (fun r m5 hp => ?_)
        rw [hp.1]
        have hR2 := zR_scr hR0 hp.2
        have hth2 : m5 0 0 = 0 := by rw [hp.2.2 0 (by omega)]; exact hth
        refine z_goto (tgt := 42) E dX6_force_38 (by decide) ?_
        exact z_iretM E hr hlocks (m5) rfl (Or.inr ⟨_, _, (dFor1 zTr.rfl' hk), hth2, rfl, q, z, zR_mono (by omega) hR2⟩) (Nat.le_of_ble_eq_true rfl) (Nat.le_of_ble_eq_true rfl) dX6_force_42
      · skip
        have hgi : g = 2 := by rw [hje, hjj]; rfl
        clear hje hjj
        subst hgi
        refine z_callVi E hZ (k_mfo2 l D am cI cR cS cL dg m3 hk hmX hpp (hokX k hk).1) gX6_force_X6_ofForce (n := 2) rfl rfl rfl (by decide +kernel) rfl ⟨(Nat.le_of_ble_eq_true rfl), (Nat.le_of_ble_eq_true rfl)⟩ (C := RX6) rfl 0 mw_obj (As := [.int (nI k), .int (2)]) (rest := []) rfl (Nat.le_of_ble_eq_true rfl) ⟨(Nat.le_of_ble_eq_true rfl), (Nat.le_of_ble_eq_true rfl)⟩ dX6_force_35 (fun r m6 hp => ?_)
        rw [hp.1]
        have hR2 := zR_scr hR0 hp.2
        have hth2 : m6 0 0 = 0 := by rw [hp.2.2 0 (by omega)]; exact hth
        refine z_goto (tgt := 42) E dX6_force_38 (by decide) ?_
        exact z_iretM E hr hlocks (m6) rfl (Or.inr ⟨_, _, (dFor2 zTr.rfl' hk), hth2, rfl, q, z, zR_mono (by omega) hR2⟩) (Nat.le_of_ble_eq_true rfl) (Nat.le_of_ble_eq_true rfl) dX6_force_42
      · skip
        have hgi : g = 3 := by rw [hje, hjj]; rfl
        clear hje hjj
        subst hgi
        refine z_callVi E hZ (k_mfo3 l D am cI cR cS cL dg m3 hk hmX hpp (hokX k hk).1) gX6_force_X6_ofForce (n := 2) rfl rfl rfl (by decide +kernel) rfl ⟨(Nat.le_of_ble_eq_true rfl), (Nat.le_of_ble_eq_true rfl)⟩ (C := RX6) rfl 0 mw_obj (As := [.int (nI k), .int (3)]) (rest := []) rfl (Nat.le_of_ble_eq_true rfl) ⟨(Nat.le_of_ble_eq_true rfl), (Nat.le_of_ble_eq_true rfl)⟩ dX6_force_35 (fun r m7 hp => ?_)
        rw [hp.1]
        have hR2 := zR_scr hR0 hp.2
        have hth2 : m7 0 0 = 0 := by rw [hp.2.2 0 (by omega)]; exact hth
        refine z_goto (tgt := 42) E dX6_force_38 (by decide) ?_
        exact z_iretM E hr hlocks (m7) rfl (Or.inr ⟨_, _, (dFor3 zTr.rfl' hk), hth2, rfl, q, z, zR_mono (by omega) hR2⟩) (Nat.le_of_ble_eq_true rfl) (Nat.le_of_ble_eq_true rfl) dX6_force_42
      · skip
        have hgi : g = 4 := by rw [hje, hjj]; rfl
        clear hje hjj
        subst hgi
        refine z_callVi E hZ (k_mfo4 l D am cI cR cS cL dg m3 hk hmX hpp (hokX k hk).1) gX6_force_X6_ofForce (n := 2) rfl rfl rfl (by decide +kernel) rfl ⟨(Nat.le_of_ble_eq_true rfl), (Nat.le_of_ble_eq_true rfl)⟩ (C := RX6) rfl 0 mw_obj (As := [.int (nI k), .int (4)]) (rest := []) rfl (Nat.le_of_ble_eq_true rfl) ⟨(Nat.le_of_ble_eq_true rfl), (Nat.le_of_ble_eq_true rfl)⟩ dX6_force_35 (fun r m8 hp => ?_)
        rw [hp.1]
        have hR2 := zR_scr hR0 hp.2
        have hth2 : m8 0 0 = 0 := by rw [hp.2.2 0 (by omega)]; exact hth
        refine z_goto (tgt := 42) E dX6_force_38 (by decide) ?_
        exact z_iretM E hr hlocks (m8) rfl (Or.inr ⟨_, _, (dFor4 zTr.rfl' hk), hth2, rfl, q, z, zR_mono (by omega) hR2⟩) (Nat.le_of_ble_eq_true rfl) (Nat.le_of_ble_eq_true rfl) dX6_force_42
      · skip
        have hgi : g = 5 := by rw [hje, hjj]; rfl
        clear hje hjj
        subst hgi
        refine z_callVi E hZ (k_mfo5 l D am cI cR cS cL dg m3 hk hmX hpp (hokX k hk).1) gX6_force_X6_ofForce (n := 2) rfl rfl rfl (by decide +kernel) rfl ⟨(Nat.le_of_ble_eq_true rfl), (Nat.le_of_ble_eq_true rfl)⟩ (C := RX6) rfl 0 mw_obj (As := [.int (nI k), .int (5)]) (rest := []) rfl (Nat.le_of_ble_eq_true rfl) ⟨(Nat.le_of_ble_eq_true rfl), (Nat.le_of_ble_eq_true rfl)⟩ dX6_force_35 (fun r m9 hp => ?_)
        rw [hp.1]
        have hR2 := zR_scr hR0 hp.2
        have hth2 : m9 0 0 = 0 := by rw [hp.2.2 0 (by omega)]; exact hth
        refine z_goto (tgt := 42) E dX6_force_38 (by decide) ?_
        exact z_iretM E hr hlocks (m9) rfl (Or.inr ⟨_, _, (dFor5 zTr.rfl' hk), hth2, rfl, q, z, zR_mono (by omega) hR2⟩) (Nat.le_of_ble_eq_true rfl) (Nat.le_of_ble_eq_true rfl) dX6_force_42
set_option maxHeartbeats 1000000 in
set_option maxRecDepth 100000 in
theorem k_mheld (l : Launch) (D : va_G) (am : Nat → Nat) (cI cR cS cL : ClassId) (dg : Int64) (mem : zM) {B : Nat} {cm : zM} {q z L : Nat} (hR : zR B cm mem q z L) (x g : Int32) : zMi l yX6_held wsX6_held ({ frames := 4, cells := 0, slots := 0, locals := 89 }) D (cK cI cR cS cL) [.ref (am 0), .int x, .int g] (mw am cI dg mem) (fun r u => mAns cdL (fun c' => ∃ q' z', zR (B + 180) c' u q' z' L) (sHeld cm x g) r (u 0 0)) (mw am cI dg) 0 0 := by
  refine zMiM.of (cc := cX6_held) (maxL := 3) (ret := (some .int)) (by decide +kernel) rfl (lv0 := [(0, .ref (am 0)), (1, .int x), (2, .int g)]) (Nat.le_of_ble_eq_true rfl) rfl ?_
  intro p e s m args below meth c E hZ hr hlocks hnm
  refine z_aload_n E dX6_held_0 rfl 0 rfl ?_
  refine z_iload_n E dX6_held_1 rfl 1 rfl ?_
  refine z_callSi E hZ (k_isLadder l D am cI cR cS cL dg mem x) gX6_held_X6_isLadder (n := 1) rfl rfl rfl (by decide +kernel) rfl ⟨Nat.le_of_ble_eq_true rfl, Nat.le_of_ble_eq_true rfl⟩ (As := [.int x]) (rest := [.ref (am 0)]) rfl (Nat.le_of_ble_eq_true rfl) ⟨Nat.le_of_ble_eq_true rfl, Nat.le_of_ble_eq_true rfl⟩ dX6_held_2 (fun r u hp => ?_)
  rw [hp.1, hp.2]
  by_cases hL : x < 0 ∨ 4 ≤ x
  · skip
    rw [fIn_L0 hL]
    refine z_if_ne_f (tgt := 12) E dX6_held_5 (by decide) (by decide) ?_
    refine z_iconst (v := 1) E dX6_held_8 (by decide) ?_
    refine z_goto (tgt := 30) E dX6_held_9 (by decide) ?_
    refine z_callVi E hZ (k_holds l D am cI cR cS cL dg mem 1) gX6_held_X6_holds (n := 1) rfl rfl rfl (by decide +kernel) rfl ⟨(Nat.le_of_ble_eq_true rfl), (Nat.le_of_ble_eq_true rfl)⟩ (C := RX6) rfl 0 mw_obj (As := [.int 1]) (rest := []) rfl (Nat.le_of_ble_eq_true rfl) ⟨(Nat.le_of_ble_eq_true rfl), (Nat.le_of_ble_eq_true rfl)⟩ dX6_held_30 (fun r m1 hp => ?_)
    have hm1 := hp.2
    rw [hp.1, show (if (1 : Int32) = 0 then (1 : Int32) else 0) = 0 by decide]
    have hR0 : zR B cm m1 q z L := zR_fld hR (by rw [hm1, mset_ne _ _ _ (by decide)]) (by rw [hm1, mset_ne _ _ _ (by decide)]) (by rw [hm1, mset_ne _ _ _ (by decide)]) (by rw [hm1, mset_ne2 _ _ (by decide)]) (by rw [hm1, mset_ne2 _ _ (by decide)])
    have hth : m1 0 0 = 1 := by rw [hm1, mset_at]
    refine z_if_eq_t (tgt := 45) E dX6_held_33 (by decide) (by decide) ?_
    refine z_iconst (v := 0) E dX6_held_45 (by decide) ?_
    exact z_iretM E hr hlocks (m1) rfl (Or.inl ⟨"java/lang/IndexOutOfBoundsException", cm, (if_pos hL), hth, q, z, zR_mono (by omega) hR0⟩) (Nat.le_of_ble_eq_true rfl) (Nat.le_of_ble_eq_true rfl) dX6_held_46
  · skip
    rw [fIn_L1 hL]
    obtain ⟨k, hk, rfl⟩ := zx4 hL
    have ek : (nI k).toNatClampNeg = k := nI_clamp (by omega)
    refine z_if_ne_t (tgt := 12) E dX6_held_5 (by decide) (by decide) ?_
    refine z_iload_n E dX6_held_12 rfl 2 rfl ?_
    refine z_sipush (v := -1000) E dX6_held_13 (by decide) ?_
    refine z_sipush (v := 1000) E dX6_held_16 (by decide) ?_
    refine z_callSi E hZ (k_in l D am cI cR cS cL dg mem g (-1000) 1000) gX6_held_X6_in (n := 3) rfl rfl rfl (by decide +kernel) rfl ⟨Nat.le_of_ble_eq_true rfl, Nat.le_of_ble_eq_true rfl⟩ (As := [.int g, .int (-1000), .int 1000]) (rest := [.ref (am 0)]) rfl (Nat.le_of_ble_eq_true rfl) ⟨Nat.le_of_ble_eq_true rfl, Nat.le_of_ble_eq_true rfl⟩ dX6_held_19 (fun r u hp => ?_)
    rw [hp.1, hp.2]
    by_cases hg : g < -1000 ∨ 1000 < g
    · skip
      rw [fIn_0 hg]
      refine z_if_ne_f (tgt := 29) E dX6_held_22 (by decide) (by decide) ?_
      refine z_iconst (v := 2) E dX6_held_25 (by decide) ?_
      refine z_goto (tgt := 30) E dX6_held_26 (by decide) ?_
      refine z_callVi E hZ (k_holds l D am cI cR cS cL dg mem 2) gX6_held_X6_holds (n := 1) rfl rfl rfl (by decide +kernel) rfl ⟨(Nat.le_of_ble_eq_true rfl), (Nat.le_of_ble_eq_true rfl)⟩ (C := RX6) rfl 0 mw_obj (As := [.int 2]) (rest := []) rfl (Nat.le_of_ble_eq_true rfl) ⟨(Nat.le_of_ble_eq_true rfl), (Nat.le_of_ble_eq_true rfl)⟩ dX6_held_30 (fun r m2 hp => ?_)
      have hm2 := hp.2
      rw [hp.1, show (if (2 : Int32) = 0 then (1 : Int32) else 0) = 0 by decide]
      have hR0 : zR B cm m2 q z L := zR_fld hR (by rw [hm2, mset_ne _ _ _ (by decide)]) (by rw [hm2, mset_ne _ _ _ (by decide)]) (by rw [hm2, mset_ne _ _ _ (by decide)]) (by rw [hm2, mset_ne2 _ _ (by decide)]) (by rw [hm2, mset_ne2 _ _ (by decide)])
      have hth : m2 0 0 = 2 := by rw [hm2, mset_at]
      refine z_if_eq_t (tgt := 45) E dX6_held_33 (by decide) (by decide) ?_
      refine z_iconst (v := 0) E dX6_held_45 (by decide) ?_
      exact z_iretM E hr hlocks (m2) rfl (Or.inl ⟨"java/lang/IllegalArgumentException", cm, ((if_neg hL).trans (if_pos hg)), hth, q, z, zR_mono (by omega) hR0⟩) (Nat.le_of_ble_eq_true rfl) (Nat.le_of_ble_eq_true rfl) dX6_held_46
    · skip
      rw [fIn_1 hg]
      refine z_if_ne_t (tgt := 29) E dX6_held_22 (by decide) (by decide) ?_
      refine z_iconst (v := 0) E dX6_held_29 (by decide) ?_
      refine z_callVi E hZ (k_holds l D am cI cR cS cL dg mem 0) gX6_held_X6_holds (n := 1) rfl rfl rfl (by decide +kernel) rfl ⟨(Nat.le_of_ble_eq_true rfl), (Nat.le_of_ble_eq_true rfl)⟩ (C := RX6) rfl 0 mw_obj (As := [.int 0]) (rest := []) rfl (Nat.le_of_ble_eq_true rfl) ⟨(Nat.le_of_ble_eq_true rfl), (Nat.le_of_ble_eq_true rfl)⟩ dX6_held_30 (fun r m3 hp => ?_)
      have hm3 := hp.2
      rw [hp.1, show (if (0 : Int32) = 0 then (1 : Int32) else 0) = 1 by decide]
      have hR0 : zR B cm m3 q z L := zR_fld hR (by rw [hm3, mset_ne _ _ _ (by decide)]) (by rw [hm3, mset_ne _ _ _ (by decide)]) (by rw [hm3, mset_ne _ _ _ (by decide)]) (by rw [hm3, mset_ne2 _ _ (by decide)]) (by rw [hm3, mset_ne2 _ _ (by decide)])
      have hth : m3 0 0 = 0 := by rw [hm3, mset_at]
      refine z_if_eq_f (tgt := 45) E dX6_held_33 (by decide) (by decide) ?_
      refine z_aload_n E dX6_held_36 rfl 0 rfl ?_
      refine z_iload_n E dX6_held_37 rfl 1 rfl ?_
      refine z_iload_n E dX6_held_38 rfl 2 rfl ?_
      obtain ⟨hokX, hSX⟩ := zSite_0 hR0.1
      obtain ⟨p0, hpp, hmX⟩ := hSX.1 k hk
      refine z_callVi E hZ (k_mlacking l D am cI cR cS cL dg m3 hk hmX hpp (hokX k hk).1 g) gX6_held_X6_lacking (n := 2) rfl rfl rfl (by decide +kernel) rfl ⟨(Nat.le_of_ble_eq_true rfl), (Nat.le_of_ble_eq_true rfl)⟩ (C := RX6) rfl 0 mw_obj (As := [.int (nI k), .int (g)]) (rest := []) rfl (Nat.le_of_ble_eq_true rfl) ⟨(Nat.le_of_ble_eq_true rfl), (Nat.le_of_ble_eq_true rfl)⟩ dX6_held_39 (fun r u hp => ?_)
      rw [hp.1]
      rw [hp.2]
      have hR2 := hR0
      have hth2 := hth
      refine z_goto (tgt := 46) E dX6_held_42 (by decide) ?_
      exact z_iretM E hr hlocks (m3) rfl (Or.inr ⟨_, _, (dHeld2 hk g hg), hth2, rfl, q, z, zR_mono (by omega) hR2⟩) (Nat.le_of_ble_eq_true rfl) (Nat.le_of_ble_eq_true rfl) dX6_held_46
def cdC (E : String) : Int32 := 1
set_option maxHeartbeats 1000000 in
set_option maxRecDepth 100000 in
theorem k_mcount (l : Launch) (D : va_G) (am : Nat → Nat) (cI cR cS cL : ClassId) (dg : Int64) (mem : zM) {B : Nat} {cm : zM} {q z L : Nat} (hR : zR B cm mem q z L) (g : Int32) : zMi l yX6_count wsX6_count ({ frames := 7, cells := 0, slots := 0, locals := 163 }) D (cK cI cR cS cL) [.ref (am 0), .int g] (mw am cI dg mem) (fun r u => mAns cdC (fun c' => ∃ q' z', zR (B + 180) c' u q' z' L) (sCount cm g) r (u 0 0)) (mw am cI dg) 0 0 := by
  refine zMiM.of (cc := cX6_count) (maxL := 2) (ret := (some .int)) (by decide +kernel) rfl (lv0 := [(0, .ref (am 0)), (1, .int g)]) (Nat.le_of_ble_eq_true rfl) rfl ?_
  intro p e s m args below meth c E hZ hr hlocks hnm
  refine z_aload_n E dX6_count_0 rfl 0 rfl ?_
  refine z_iload_n E dX6_count_1 rfl 1 rfl ?_
  refine z_iconst (v := 0) E dX6_count_2 (by decide) ?_
  refine z_iconst (v := 5) E dX6_count_3 (by decide) ?_
  refine z_callSi E hZ (k_in l D am cI cR cS cL dg mem g 0 5) gX6_count_X6_in (n := 3) rfl rfl rfl (by decide +kernel) rfl ⟨Nat.le_of_ble_eq_true rfl, Nat.le_of_ble_eq_true rfl⟩ (As := [.int g, .int 0, .int 5]) (rest := [.ref (am 0)]) rfl (Nat.le_of_ble_eq_true rfl) ⟨Nat.le_of_ble_eq_true rfl, Nat.le_of_ble_eq_true rfl⟩ dX6_count_4 (fun r u hp => ?_)
  rw [hp.1, hp.2]
  by_cases hg : g < 0 ∨ 5 < g
  · skip
    rw [fIn_0 hg]
    refine z_if_eq_t (tgt := 14) E dX6_count_7 (by decide) (by decide) ?_
    refine z_iconst (v := 1) E dX6_count_14 (by decide) ?_
    refine z_callVi E hZ (k_holds l D am cI cR cS cL dg mem 1) gX6_count_X6_holds (n := 1) rfl rfl rfl (by decide +kernel) rfl ⟨(Nat.le_of_ble_eq_true rfl), (Nat.le_of_ble_eq_true rfl)⟩ (C := RX6) rfl 0 mw_obj (As := [.int 1]) (rest := []) rfl (Nat.le_of_ble_eq_true rfl) ⟨(Nat.le_of_ble_eq_true rfl), (Nat.le_of_ble_eq_true rfl)⟩ dX6_count_15 (fun r m1 hp => ?_)
    have hm1 := hp.2
    rw [hp.1, show (if (1 : Int32) = 0 then (1 : Int32) else 0) = 0 by decide]
    have hR0 : zR B cm m1 q z L := zR_fld hR (by rw [hm1, mset_ne _ _ _ (by decide)]) (by rw [hm1, mset_ne _ _ _ (by decide)]) (by rw [hm1, mset_ne _ _ _ (by decide)]) (by rw [hm1, mset_ne2 _ _ (by decide)]) (by rw [hm1, mset_ne2 _ _ (by decide)])
    have hth : m1 0 0 = 1 := by rw [hm1, mset_at]
    refine z_if_eq_t (tgt := 29) E dX6_count_18 (by decide) (by decide) ?_
    refine z_iconst (v := 0) E dX6_count_29 (by decide) ?_
    exact z_iretM E hr hlocks (m1) rfl (Or.inl ⟨"java/lang/IllegalArgumentException", cm, sCount_bw hg, hth, q, z, zR_mono (by omega) hR0⟩) (Nat.le_of_ble_eq_true rfl) (Nat.le_of_ble_eq_true rfl) dX6_count_30
  · skip
    rw [fIn_1 hg]
    refine z_if_eq_f (tgt := 14) E dX6_count_7 (by decide) (by decide) ?_
    refine z_iconst (v := 0) E dX6_count_10 (by decide) ?_
    refine z_goto (tgt := 15) E dX6_count_11 (by decide) ?_
    refine z_callVi E hZ (k_holds l D am cI cR cS cL dg mem 0) gX6_count_X6_holds (n := 1) rfl rfl rfl (by decide +kernel) rfl ⟨(Nat.le_of_ble_eq_true rfl), (Nat.le_of_ble_eq_true rfl)⟩ (C := RX6) rfl 0 mw_obj (As := [.int 0]) (rest := []) rfl (Nat.le_of_ble_eq_true rfl) ⟨(Nat.le_of_ble_eq_true rfl), (Nat.le_of_ble_eq_true rfl)⟩ dX6_count_15 (fun r m2 hp => ?_)
    have hm2 := hp.2
    rw [hp.1, show (if (0 : Int32) = 0 then (1 : Int32) else 0) = 1 by decide]
    have hR0 : zR B cm m2 q z L := zR_fld hR (by rw [hm2, mset_ne _ _ _ (by decide)]) (by rw [hm2, mset_ne _ _ _ (by decide)]) (by rw [hm2, mset_ne _ _ _ (by decide)]) (by rw [hm2, mset_ne2 _ _ (by decide)]) (by rw [hm2, mset_ne2 _ _ (by decide)])
    have hth : m2 0 0 = 0 := by rw [hm2, mset_at]
    refine z_if_eq_f (tgt := 29) E dX6_count_18 (by decide) (by decide) ?_
    refine z_aload_n E dX6_count_21 rfl 0 rfl ?_
    refine z_iload_n E dX6_count_22 rfl 1 rfl ?_
    obtain ⟨hokX, hSX⟩ := zSite_0 hR0.1
    have hz5 := hR0.2.1.2.2.2.2.1
    have hz6 := hR0.2.1.2.2.2.1
    obtain ⟨j, hj, hje⟩ := zin_nI (n := 5) (by decide) hg
    rcases (show j = 0 ∨ j = 1 ∨ j = 2 ∨ j = 3 ∨ j = 4 ∨ j = 5 by omega) with hjj | hjj | hjj | hjj | hjj | hjj
    · skip
      have hgi : g = 0 := by rw [hje, hjj]; rfl
      clear hje hjj
      subst hgi
      refine z_callVi E hZ (k_mcnt0 l D am cI cR cS cL dg m2 hokX hSX hz5) gX6_count_X6_counted (n := 1) rfl rfl rfl (by decide +kernel) rfl ⟨(Nat.le_of_ble_eq_true rfl), (Nat.le_of_ble_eq_true rfl)⟩ (C := RX6) rfl 0 mw_obj (As := [.int (0)]) (rest := []) rfl (Nat.le_of_ble_eq_true rfl) ⟨(Nat.le_of_ble_eq_true rfl), (Nat.le_of_ble_eq_true rfl)⟩ dX6_count_23 (fun r m3 hp => ?_)
      rw [hp.1]
      have hR2 := zR_scr hR0 hp.2
      have hth2 : m3 0 0 = 0 := by rw [hp.2.2 0 (by omega)]; exact hth
      refine z_goto (tgt := 30) E dX6_count_26 (by decide) ?_
      exact z_iretM E hr hlocks (m3) rfl (Or.inr ⟨_, _, (dCnt0 cm), hth2, rfl, q, z, zR_mono (by omega) hR2⟩) (Nat.le_of_ble_eq_true rfl) (Nat.le_of_ble_eq_true rfl) dX6_count_30
    · skip
      have hgi : g = 1 := by rw [hje, hjj]; rfl
      clear hje hjj
      subst hgi
      refine z_callVi E hZ (k_mcnt1 l D am cI cR cS cL dg m2 hokX hSX hz5) gX6_count_X6_counted (n := 1) rfl rfl rfl (by decide +kernel) rfl ⟨(Nat.le_of_ble_eq_true rfl), (Nat.le_of_ble_eq_true rfl)⟩ (C := RX6) rfl 0 mw_obj (As := [.int (1)]) (rest := []) rfl (Nat.le_of_ble_eq_true rfl) ⟨(Nat.le_of_ble_eq_true rfl), (Nat.le_of_ble_eq_true rfl)⟩ dX6_count_23 (fun r m4 hp => ?_)
      rw [hp.1]
      have hR2 := zR_scr hR0 hp.2
      have hth2 : m4 0 0 = 0 := by rw [hp.2.2 0 (by omega)]; exact hth
      refine z_goto (tgt := 30) E dX6_count_26 (by decide) ?_
      exact z_iretM E hr hlocks (m4) rfl (Or.inr ⟨_, _, (dCnt1 cm), hth2, rfl, q, z, zR_mono (by omega) hR2⟩) (Nat.le_of_ble_eq_true rfl) (Nat.le_of_ble_eq_true rfl) dX6_count_30
    · skip
      have hgi : g = 2 := by rw [hje, hjj]; rfl
      clear hje hjj
      subst hgi
      refine z_callVi E hZ (k_mcnt2 l D am cI cR cS cL dg m2 hokX hSX hz5) gX6_count_X6_counted (n := 1) rfl rfl rfl (by decide +kernel) rfl ⟨(Nat.le_of_ble_eq_true rfl), (Nat.le_of_ble_eq_true rfl)⟩ (C := RX6) rfl 0 mw_obj (As := [.int (2)]) (rest := []) rfl (Nat.le_of_ble_eq_true rfl) ⟨(Nat.le_of_ble_eq_true rfl), (Nat.le_of_ble_eq_true rfl)⟩ dX6_count_23 (fun r m5 hp => ?_)
      rw [hp.1]
      have hR2 := zR_scr hR0 hp.2
      have hth2 : m5 0 0 = 0 := by rw [hp.2.2 0 (by omega)]; exact hth
      refine z_goto (tgt := 30) E dX6_count_26 (by decide) ?_
      exact z_iretM E hr hlocks (m5) rfl (Or.inr ⟨_, _, (dCnt2 cm), hth2, rfl, q, z, zR_mono (by omega) hR2⟩) (Nat.le_of_ble_eq_true rfl) (Nat.le_of_ble_eq_true rfl) dX6_count_30
    · skip
      have hgi : g = 3 := by rw [hje, hjj]; rfl
      clear hje hjj
      subst hgi
      refine z_callVi E hZ (k_mcnt3 l D am cI cR cS cL dg m2 hokX hSX hz5) gX6_count_X6_counted (n := 1) rfl rfl rfl (by decide +kernel) rfl ⟨(Nat.le_of_ble_eq_true rfl), (Nat.le_of_ble_eq_true rfl)⟩ (C := RX6) rfl 0 mw_obj (As := [.int (3)]) (rest := []) rfl (Nat.le_of_ble_eq_true rfl) ⟨(Nat.le_of_ble_eq_true rfl), (Nat.le_of_ble_eq_true rfl)⟩ dX6_count_23 (fun r m6 hp => ?_)
      rw [hp.1]
      have hR2 := zR_scr hR0 hp.2
      have hth2 : m6 0 0 = 0 := by rw [hp.2.2 0 (by omega)]; exact hth
      refine z_goto (tgt := 30) E dX6_count_26 (by decide) ?_
      exact z_iretM E hr hlocks (m6) rfl (Or.inr ⟨_, _, (dCnt3 cm), hth2, rfl, q, z, zR_mono (by omega) hR2⟩) (Nat.le_of_ble_eq_true rfl) (Nat.le_of_ble_eq_true rfl) dX6_count_30
    · skip
      have hgi : g = 4 := by rw [hje, hjj]; rfl
      clear hje hjj
      subst hgi
      refine z_callVi E hZ (k_mcnt4 l D am cI cR cS cL dg m2 hokX hSX hz5) gX6_count_X6_counted (n := 1) rfl rfl rfl (by decide +kernel) rfl ⟨(Nat.le_of_ble_eq_true rfl), (Nat.le_of_ble_eq_true rfl)⟩ (C := RX6) rfl 0 mw_obj (As := [.int (4)]) (rest := []) rfl (Nat.le_of_ble_eq_true rfl) ⟨(Nat.le_of_ble_eq_true rfl), (Nat.le_of_ble_eq_true rfl)⟩ dX6_count_23 (fun r m7 hp => ?_)
      rw [hp.1]
      have hR2 := zR_scr hR0 hp.2
      have hth2 : m7 0 0 = 0 := by rw [hp.2.2 0 (by omega)]; exact hth
      refine z_goto (tgt := 30) E dX6_count_26 (by decide) ?_
      exact z_iretM E hr hlocks (m7) rfl (Or.inr ⟨_, _, (dCnt4 cm), hth2, rfl, q, z, zR_mono (by omega) hR2⟩) (Nat.le_of_ble_eq_true rfl) (Nat.le_of_ble_eq_true rfl) dX6_count_30
    · skip
      have hgi : g = 5 := by rw [hje, hjj]; rfl
      clear hje hjj
      subst hgi
      refine z_callVi E hZ (k_mcnt5 l D am cI cR cS cL dg m2 hokX hSX hz5) gX6_count_X6_counted (n := 1) rfl rfl rfl (by decide +kernel) rfl ⟨(Nat.le_of_ble_eq_true rfl), (Nat.le_of_ble_eq_true rfl)⟩ (C := RX6) rfl 0 mw_obj (As := [.int (5)]) (rest := []) rfl (Nat.le_of_ble_eq_true rfl) ⟨(Nat.le_of_ble_eq_true rfl), (Nat.le_of_ble_eq_true rfl)⟩ dX6_count_23 (fun r m8 hp => ?_)
      rw [hp.1]
      have hR2 := zR_scr hR0 hp.2
      have hth2 : m8 0 0 = 0 := by rw [hp.2.2 0 (by omega)]; exact hth
      refine z_goto (tgt := 30) E dX6_count_26 (by decide) ?_
      exact z_iretM E hr hlocks (m8) rfl (Or.inr ⟨_, _, ((dCnt5 cm).trans (by rw [hz6])), hth2, rfl, q, z, zR_mono (by omega) hR2⟩) (Nat.le_of_ble_eq_true rfl) (Nat.le_of_ble_eq_true rfl) dX6_count_30
