/-! what would be, as the law sees it -/
theorem zn0 {p : Nat} (hp : p ≤ 3) (h : nI p = 0) : p = 0 := (nI_eq (a := p) (b := 0) (by omega) (by omega)).mp h
set_option maxHeartbeats 8000000 in
set_option maxRecDepth 100000 in
theorem k_trialsSo (l : Launch) (D : va_G) (ad : Nat → Nat) (cI cR cS cL : ClassId) (mem : zM) (hl : l.stackTraces = false) {k : Nat} (hk : k < 4) (hok : zOK mem) : zMi l yL_areTrialsSo wsL_areTrialsSo ({ frames := 8, cells := 0, slots := 0, locals := 137 }) D (cK cI cR cS cL) [.ref (ad 106), .int (nI k)] (cw ad cI cR cS mem) (fun r u => r = 1 ∧ zTr mem u) (cw ad cI cR cS) 0 0 := by
  obtain ⟨hfd, pp, hpp⟩ := hok k hk
  have h7 := hpp.2.1
  have hpp3 := hpp.1
  have h3 := hok.h3
  have hA := hok.hA
  obtain ⟨bb, hh, gg, ww, LL, MM, rr, V⟩ := rV_of hfd (rQ_of hpp)
  obtain ⟨lo, hi, H⟩ := rLH_of V
  obtain ⟨r1, r2, r3, r4⟩ := fNR_of V
  obtain ⟨w1, w2, w3⟩ := fWL_of V hfd
  obtain ⟨k1, k2⟩ := fBB_of hfd (fun q => (zFo_of V H q).1.1)
  obtain ⟨d1, d2⟩ := fRK_of h7 hpp3
  obtain ⟨nr, hnr⟩ : ∃ v, v = fNR (rv mem k) := ⟨_, rfl⟩
  obtain ⟨wl, hwl⟩ : ∃ v, v = fWL (rv mem k) := ⟨_, rfl⟩
  obtain ⟨bs, hbs⟩ : ∃ v, v = fBB (rv mem k) := ⟨_, rfl⟩
  obtain ⟨rk, hrk⟩ : ∃ v, v = fRK (rv mem k) := ⟨_, rfl⟩
  rw [← hnr] at r1 r2 r3 r4
  rw [← hwl] at w1 w2 w3
  rw [← hbs] at k1 k2
  rw [← hrk] at d1 d2
  refine zMiM.of (cc := cL_areTrialsSo) (maxL := 10) (ret := (some .boolean)) (by decide +kernel) rfl (lv0 := [(0, .ref (ad 106)), (1, .int (nI k))]) (Nat.le_of_ble_eq_true rfl) rfl ?_
  intro p e s m args below meth c E hZ hr hlocks hnm
  by_cases hst : fStands (rv mem k) = 0
  · skip
    refine z_aload_n E dL_areTrialsSo_0 rfl 0 rfl ?_
    refine z_iload_n E dL_areTrialsSo_1 rfl 1 rfl ?_
    refine z_callViN E hZ (k_neededRope l D ad cI cR cS cL mem (c0 := 0) (s0 := 0) hl (nI k)  (fun E h => znol ((dNeeded zTr.rfl' hk).trans (congrArg Sum.inr hnr.symm)) h)) gL_areTrialsSo_X5_neededRope (n := 1) rfl rfl rfl (by decide +kernel) rfl ⟨(Nat.le_of_ble_eq_true rfl), (Nat.le_of_ble_eq_true rfl)⟩ (C := RX5) rfl 106 cw_lad (As := [.int (nI k)]) (rest := []) rfl (Nat.le_of_ble_eq_true rfl) ⟨(Nat.le_of_ble_eq_true rfl), (Nat.le_of_ble_eq_true rfl)⟩ dL_areTrialsSo_2 (fun E u h => znol ((dNeeded zTr.rfl' hk).trans (congrArg Sum.inr hnr.symm)) h.1) (fun r m1 hp => ?_)
    rw [zyesl ((dNeeded zTr.rfl' hk).trans (congrArg Sum.inr hnr.symm)) hp.1]
    have tm1 : zTr mem m1 := zTr.rfl'.trans hp.2
    refine z_istore_n (lv' := [(2, .int nr), (0, .ref (ad 106)), (1, .int (nI k))]) E dL_areTrialsSo_5 rfl (by decide) rfl ?_
    refine z_aload_n E dL_areTrialsSo_6 rfl 1 rfl ?_
    refine z_iload_n E dL_areTrialsSo_7 rfl 2 rfl ?_
    refine z_callViN E hZ (k_walls l D ad cI cR cS cL m1 (c0 := 0) (s0 := 0) hl (nI k)  (fun E h => znol ((dWalls tm1 hk).trans (congrArg Sum.inr hwl.symm)) h)) gL_areTrialsSo_X5_walls (n := 1) rfl rfl rfl (by decide +kernel) rfl ⟨(Nat.le_of_ble_eq_true rfl), (Nat.le_of_ble_eq_true rfl)⟩ (C := RX5) rfl 106 cw_lad (As := [.int (nI k)]) (rest := []) rfl (Nat.le_of_ble_eq_true rfl) ⟨(Nat.le_of_ble_eq_true rfl), (Nat.le_of_ble_eq_true rfl)⟩ dL_areTrialsSo_8 (fun E u h => znol ((dWalls tm1 hk).trans (congrArg Sum.inr hwl.symm)) h.1) (fun r m2 hp => ?_)
    rw [zyesl ((dWalls tm1 hk).trans (congrArg Sum.inr hwl.symm)) hp.1]
    have tm2 : zTr mem m2 := tm1.trans hp.2
    refine z_istore_n (lv' := [(3, .int wl), (2, .int nr), (0, .ref (ad 106)), (1, .int (nI k))]) E dL_areTrialsSo_11 rfl (by decide) rfl ?_
    refine z_aload_n E dL_areTrialsSo_12 rfl 2 rfl ?_
    refine z_iload_n E dL_areTrialsSo_13 rfl 3 rfl ?_
    refine z_callViN E hZ (k_bestBase l D ad cI cR cS cL m2 (c0 := 0) (s0 := 0) hl (nI k)  (fun E h => znol ((dBest tm2 hk).trans (congrArg Sum.inr hbs.symm)) h)) gL_areTrialsSo_X5_bestBase (n := 1) rfl rfl rfl (by decide +kernel) rfl ⟨(Nat.le_of_ble_eq_true rfl), (Nat.le_of_ble_eq_true rfl)⟩ (C := RX5) rfl 106 cw_lad (As := [.int (nI k)]) (rest := []) rfl (Nat.le_of_ble_eq_true rfl) ⟨(Nat.le_of_ble_eq_true rfl), (Nat.le_of_ble_eq_true rfl)⟩ dL_areTrialsSo_14 (fun E u h => znol ((dBest tm2 hk).trans (congrArg Sum.inr hbs.symm)) h.1) (fun r m3 hp => ?_)
    rw [zyesl ((dBest tm2 hk).trans (congrArg Sum.inr hbs.symm)) hp.1]
    have tm3 : zTr mem m3 := tm2.trans hp.2
    refine z_istore (lv' := [(4, .int bs), (3, .int wl), (2, .int nr), (0, .ref (ad 106)), (1, .int (nI k))]) E dL_areTrialsSo_17 (by decide) rfl ?_
    refine z_aload_n E dL_areTrialsSo_19 rfl 3 rfl ?_
    refine z_iload_n E dL_areTrialsSo_20 rfl 4 rfl ?_
    refine z_bipush (v := 6) E dL_areTrialsSo_21 (by decide) ?_
    refine z_callViN E hZ (k_ladder l D ad cI cR cS cL m3 (c0 := 0) (s0 := 0) hl (nI k) 6  (fun E u h => zno (dLad6 tm3 hk) h)) gL_areTrialsSo_X5_ladder (n := 2) rfl rfl rfl (by decide +kernel) rfl ⟨(Nat.le_of_ble_eq_true rfl), (Nat.le_of_ble_eq_true rfl)⟩ (C := RX5) rfl 106 cw_lad (As := [.int (nI k), .int 6]) (rest := []) rfl (Nat.le_of_ble_eq_true rfl) ⟨(Nat.le_of_ble_eq_true rfl), (Nat.le_of_ble_eq_true rfl)⟩ dL_areTrialsSo_23 (fun E u h => zno (dLad6 tm3 hk) h) (fun r u hp => ?_)
    rw [(zyes (dLad6 tm3 hk) hp).1, (zyes (dLad6 tm3 hk) hp).2]
    rw [h7]
    refine z_istore (lv' := [(5, .int (nI pp)), (4, .int bs), (3, .int wl), (2, .int nr), (0, .ref (ad 106)), (1, .int (nI k))]) E dL_areTrialsSo_26 (by decide) rfl ?_
    refine z_aload_n E dL_areTrialsSo_28 rfl 4 rfl ?_
    refine z_iload_n E dL_areTrialsSo_29 rfl 5 rfl ?_
    refine z_callViN E hZ (k_riskiest l D ad cI cR cS cL m3 (c0 := 0) (s0 := 0) hl (nI k) (zTr3 tm3 h3) (fun E h => znol ((dRisk tm3 hk).trans (congrArg Sum.inr hrk.symm)) h)) gL_areTrialsSo_X5_riskiest (n := 1) rfl rfl rfl (by decide +kernel) rfl ⟨(Nat.le_of_ble_eq_true rfl), (Nat.le_of_ble_eq_true rfl)⟩ (C := RX5) rfl 106 cw_lad (As := [.int (nI k)]) (rest := []) rfl (Nat.le_of_ble_eq_true rfl) ⟨(Nat.le_of_ble_eq_true rfl), (Nat.le_of_ble_eq_true rfl)⟩ dL_areTrialsSo_30 (fun E u h => znol ((dRisk tm3 hk).trans (congrArg Sum.inr hrk.symm)) h.1) (fun r m4 hp => ?_)
    rw [zyesl ((dRisk tm3 hk).trans (congrArg Sum.inr hrk.symm)) hp.1]
    have tm4 : zTr mem m4 := tm3.trans hp.2
    refine z_istore (lv' := [(6, .int rk), (5, .int (nI pp)), (4, .int bs), (3, .int wl), (2, .int nr), (0, .ref (ad 106)), (1, .int (nI k))]) E dL_areTrialsSo_33 (by decide) rfl ?_
    refine z_aload_n E dL_areTrialsSo_35 rfl 5 rfl ?_
    refine z_iload_n E dL_areTrialsSo_36 rfl 6 rfl ?_
    refine z_bipush (v := 10) E dL_areTrialsSo_37 (by decide) ?_
    refine z_callViN E hZ (k_ladder l D ad cI cR cS cL m4 (c0 := 0) (s0 := 0) hl (nI k) 10  (fun E u h => zno (dLad10 tm4 hk) h)) gL_areTrialsSo_X5_ladder (n := 2) rfl rfl rfl (by decide +kernel) rfl ⟨(Nat.le_of_ble_eq_true rfl), (Nat.le_of_ble_eq_true rfl)⟩ (C := RX5) rfl 106 cw_lad (As := [.int (nI k), .int 10]) (rest := []) rfl (Nat.le_of_ble_eq_true rfl) ⟨(Nat.le_of_ble_eq_true rfl), (Nat.le_of_ble_eq_true rfl)⟩ dL_areTrialsSo_39 (fun E u h => zno (dLad10 tm4 hk) h) (fun r u hp => ?_)
    rw [(zyes (dLad10 tm4 hk) hp).1, (zyes (dLad10 tm4 hk) hp).2]
    refine z_iconst (v := 1) E dL_areTrialsSo_42 (by decide) ?_
    refine z_icmp_ne_t (tgt := 50) E dL_areTrialsSo_43 (by decide) (by rw [hst]; decide) ?_
    refine z_iconst (v := 0) E dL_areTrialsSo_50 (by decide) ?_
    refine z_istore (lv' := [(7, .int 0), (6, .int rk), (5, .int (nI pp)), (4, .int bs), (3, .int wl), (2, .int nr), (0, .ref (ad 106)), (1, .int (nI k))]) E dL_areTrialsSo_51 (by decide) rfl ?_
    refine z_iload_n E dL_areTrialsSo_53 rfl 5 rfl ?_
    refine z_iconst (v := -1) E dL_areTrialsSo_54 (by decide) ?_
    refine z_icmp_lt_f (tgt := 206) E dL_areTrialsSo_55 (by decide) r1 ?_
    refine z_iload_n E dL_areTrialsSo_58 rfl 5 rfl ?_
    refine z_sipush (v := 200) E dL_areTrialsSo_59 (by decide) ?_
    refine z_icmp_gt_f (tgt := 206) E dL_areTrialsSo_62 (by decide) r2 ?_
    refine z_iload E dL_areTrialsSo_65 0 rfl ?_
    refine z_if_eq_t (tgt := 87) E dL_areTrialsSo_67 (by decide) (by decide) ?_
    refine z_iload_n E dL_areTrialsSo_87 rfl 5 rfl ?_
    refine z_iconst (v := -1) E dL_areTrialsSo_88 (by decide) ?_
    refine z_join (fun v102 => v102 = wl) (pc2 := 102) (c2 := 0) (s2 := 0) (lv2 := (fun v102 => [(7, .int 0), (6, .int rk), (5, .int (nI pp)), (4, .int bs), (3, .int v102), (2, .int nr), (0, .ref (ad 106)), (1, .int (nI k))])) (st2 := (fun _ => [])) (fun v102 hv102 => ?_) (fun J102 => ?_)
    · rw [hv102]
      refine z_iload_n E dL_areTrialsSo_102 rfl 4 rfl ?_
      refine z_aload_n E dL_areTrialsSo_103 rfl 6 rfl ?_
      refine z_iload_n E dL_areTrialsSo_104 rfl 7 rfl ?_
      refine z_iconst (v := 4) E dL_areTrialsSo_105 (by decide) ?_
      refine z_callViN E hZ (k_ladder l D ad cI cR cS cL m4 (c0 := 0) (s0 := 0) hl (nI k) 4  (fun E u h => zno (dLad4 tm4 hk) h)) gL_areTrialsSo_X5_ladder (n := 2) rfl rfl rfl (by decide +kernel) rfl ⟨(Nat.le_of_ble_eq_true rfl), (Nat.le_of_ble_eq_true rfl)⟩ (C := RX5) rfl 106 cw_lad (As := [.int (nI k), .int 4]) (rest := [.int wl]) rfl (Nat.le_of_ble_eq_true rfl) ⟨(Nat.le_of_ble_eq_true rfl), (Nat.le_of_ble_eq_true rfl)⟩ dL_areTrialsSo_106 (fun E u h => zno (dLad4 tm4 hk) h) (fun r u hp => ?_)
      rw [(zyes (dLad4 tm4 hk) hp).1, (zyes (dLad4 tm4 hk) hp).2]
      refine z_ishr E dL_areTrialsSo_109 ?_
      refine z_iconst (v := 1) E dL_areTrialsSo_110 (by decide) ?_
      refine z_iand E dL_areTrialsSo_111 ?_
      refine z_iload E dL_areTrialsSo_112 0 rfl ?_
      refine z_if_eq_t (tgt := 121) E dL_areTrialsSo_114 (by decide) (by decide) ?_
      refine z_iconst (v := 0) E dL_areTrialsSo_121 (by decide) ?_
      refine z_icmp_ne_f (tgt := 206) E dL_areTrialsSo_122 (by decide) (w1.trans hst) ?_
      refine z_iload_n E dL_areTrialsSo_125 rfl 4 rfl ?_
      refine z_iconst (v := 2) E dL_areTrialsSo_126 (by decide) ?_
      refine z_iand E dL_areTrialsSo_127 ?_
      refine z_join (fun v137 => v137 = wl) (pc2 := 137) (c2 := 0) (s2 := 0) (lv2 := (fun v137 => [(7, .int 0), (6, .int rk), (5, .int (nI pp)), (4, .int bs), (3, .int v137), (2, .int nr), (0, .ref (ad 106)), (1, .int (nI k))])) (st2 := (fun _ => [])) (fun v137 hv137 => ?_) (fun J137 => ?_)
      · rw [hv137]
        refine z_iload_n E dL_areTrialsSo_137 rfl 4 rfl ?_
        refine z_iconst (v := 1) E dL_areTrialsSo_138 (by decide) ?_
        refine z_iand E dL_areTrialsSo_139 ?_
        refine z_join (fun v149 => v149 = wl) (pc2 := 149) (c2 := 0) (s2 := 0) (lv2 := (fun v149 => [(7, .int 0), (6, .int rk), (5, .int (nI pp)), (4, .int bs), (3, .int v149), (2, .int nr), (0, .ref (ad 106)), (1, .int (nI k))])) (st2 := (fun _ => [])) (fun v149 hv149 => ?_) (fun J149 => ?_)
        · rw [hv149]
          refine z_iload E dL_areTrialsSo_149 3 rfl ?_
          refine z_iconst (v := -1) E dL_areTrialsSo_151 (by decide) ?_
          refine z_join (fun v176 => v176 = bs) (pc2 := 176) (c2 := 0) (s2 := 0) (lv2 := (fun v176 => [(7, .int 0), (6, .int rk), (5, .int (nI pp)), (4, .int v176), (3, .int wl), (2, .int nr), (0, .ref (ad 106)), (1, .int (nI k))])) (st2 := (fun _ => [])) (fun v176 hv176 => ?_) (fun J176 => ?_)
          · rw [hv176]
            refine z_iload E dL_areTrialsSo_176 2 rfl ?_
            refine z_join (fun v202 => v202 = rk) (pc2 := 202) (c2 := 0) (s2 := 0) (lv2 := (fun v202 => [(7, .int 0), (6, .int v202), (5, .int (nI pp)), (4, .int bs), (3, .int wl), (2, .int nr), (0, .ref (ad 106)), (1, .int (nI k))])) (st2 := (fun _ => [])) (fun v202 hv202 => ?_) (fun J202 => ?_)
            · rw [hv202]
              refine z_iconst (v := 1) E dL_areTrialsSo_202 (by decide) ?_
              refine z_goto (tgt := 207) E dL_areTrialsSo_203 (by decide) ?_
              refine z_istore (lv' := [(8, .int 1), (7, .int 0), (6, .int rk), (5, .int (nI pp)), (4, .int bs), (3, .int wl), (2, .int nr), (0, .ref (ad 106)), (1, .int (nI k))]) E dL_areTrialsSo_207 (by decide) rfl ?_
              refine z_iconst (v := 0) E dL_areTrialsSo_209 (by decide) ?_
              refine z_istore (lv' := [(9, .int 0), (8, .int 1), (7, .int 0), (6, .int rk), (5, .int (nI pp)), (4, .int bs), (3, .int wl), (2, .int nr), (0, .ref (ad 106)), (1, .int (nI k))]) E dL_areTrialsSo_210 (by decide) rfl ?_
              refine z_loop (σ := zM × Nat) (fun n y => y.2 + n = pp ∧ zTr mem y.1) (fun y => cw ad cI cR cS y.1) (fun y => [(9, .int (nI y.2)), (8, .int 1), (7, .int 0), (6, .int rk), (5, .int (nI pp)), (4, .int bs), (3, .int wl), (2, .int nr), (0, .ref (ad 106)), (1, .int (nI k))]) 212 0 0 ?_ pp (m4, 0) ⟨Nat.zero_add _, tm4⟩ rfl rfl rfl rfl rfl
              rintro n212 ⟨m, t⟩ ⟨hi212, htr⟩ ih212
              dsimp only at hi212 htr ⊢
              refine z_iload E dL_areTrialsSo_212 0 rfl ?_
              refine z_iload E dL_areTrialsSo_214 4 rfl ?_
              refine z_icmp_ge (tgt := 267) E dL_areTrialsSo_216 (by decide) (fun c216 => ?_) (fun c216 => ?_)
              · skip
                refine z_iload E dL_areTrialsSo_267 1 rfl ?_
                refine z_if_eq_f (tgt := 297) E dL_areTrialsSo_269 (by decide) (by decide) ?_
                refine z_aload_n E dL_areTrialsSo_272 rfl 8 rfl ?_
                refine z_iload_n E dL_areTrialsSo_273 rfl 9 rfl ?_
                refine z_iconst (v := 0) E dL_areTrialsSo_274 (by decide) ?_
                refine z_callViN E hZ (k_ladder l D ad cI cR cS cL m (c0 := 0) (s0 := 0) hl (nI k) 0  (fun E u h => zno (dLad0 htr hk) h)) gL_areTrialsSo_X5_ladder (n := 2) rfl rfl rfl (by decide +kernel) rfl ⟨(Nat.le_of_ble_eq_true rfl), (Nat.le_of_ble_eq_true rfl)⟩ (C := RX5) rfl 106 cw_lad (As := [.int (nI k), .int 0]) (rest := []) rfl (Nat.le_of_ble_eq_true rfl) ⟨(Nat.le_of_ble_eq_true rfl), (Nat.le_of_ble_eq_true rfl)⟩ dL_areTrialsSo_275 (fun E u h => zno (dLad0 htr hk) h) (fun r u hp => ?_)
                rw [(zyes (dLad0 htr hk) hp).1, (zyes (dLad0 htr hk) hp).2]
                refine z_iconst (v := 5) E dL_areTrialsSo_278 (by decide) ?_
                refine z_irem E dL_areTrialsSo_279 (by decide) ?_
                refine z_if_ne (tgt := 293) E dL_areTrialsSo_280 (by decide) (fun c280 => ?_) (fun c280 => ?_)
                · skip
                  refine z_iconst (v := 1) E dL_areTrialsSo_293 (by decide) ?_
                  refine z_goto (tgt := 298) E dL_areTrialsSo_294 (by decide) ?_
                  exact z_izretM E hr hlocks (m) rfl rfl ⟨rfl, htr⟩ (Nat.le_of_ble_eq_true rfl) (Nat.le_of_ble_eq_true rfl) dL_areTrialsSo_298
                · skip
                  refine z_iload E dL_areTrialsSo_283 2 rfl ?_
                  refine z_if_eq_t (tgt := 293) E dL_areTrialsSo_285 (by decide) (by decide) ?_
                  refine z_iconst (v := 1) E dL_areTrialsSo_293 (by decide) ?_
                  refine z_goto (tgt := 298) E dL_areTrialsSo_294 (by decide) ?_
                  exact z_izretM E hr hlocks (m) rfl rfl ⟨rfl, htr⟩ (Nat.le_of_ble_eq_true rfl) (Nat.le_of_ble_eq_true rfl) dL_areTrialsSo_298
              · skip
                have ht : t < pp := zklt (k := t) (L := pp) (by omega) (by omega) c216
                obtain ⟨ht0, hht⟩ : ∃ v, v = fHi (rv mem k) t := ⟨_, rfl⟩
                obtain ⟨hh1, hh2⟩ := fHi_of hpp ht
                rw [← hht] at hh1 hh2
                refine z_iload E dL_areTrialsSo_219 1 rfl ?_
                refine z_if_eq_f (tgt := 258) E dL_areTrialsSo_221 (by decide) (by decide) ?_
                refine z_aload_n E dL_areTrialsSo_224 rfl 8 rfl ?_
                refine z_iload_n E dL_areTrialsSo_225 rfl 9 rfl ?_
                refine z_iload E dL_areTrialsSo_226 0 rfl ?_
                refine z_callViN E hZ (k_highest l D ad cI cR cS cL m (c0 := 0) (s0 := 0) hl (nI k) (nI t) (zTrA htr hA) (fun E h => znol ((dHigh htr hk h7 hpp3 ht).trans (congrArg Sum.inr hht.symm)) h)) gL_areTrialsSo_X5_highest (n := 2) rfl rfl rfl (by decide +kernel) rfl ⟨(Nat.le_of_ble_eq_true rfl), (Nat.le_of_ble_eq_true rfl)⟩ (C := RX5) rfl 106 cw_lad (As := [.int (nI k), .int (nI t)]) (rest := []) rfl (Nat.le_of_ble_eq_true rfl) ⟨(Nat.le_of_ble_eq_true rfl), (Nat.le_of_ble_eq_true rfl)⟩ dL_areTrialsSo_228 (fun E u h => znol ((dHigh htr hk h7 hpp3 ht).trans (congrArg Sum.inr hht.symm)) h.1) (fun r m5 hp => ?_)
                rw [zyesl ((dHigh htr hk h7 hpp3 ht).trans (congrArg Sum.inr hht.symm)) hp.1]
                have tm5 : zTr mem m5 := htr.trans hp.2
                refine z_aload_n E dL_areTrialsSo_231 rfl 8 rfl ?_
                refine z_iload_n E dL_areTrialsSo_232 rfl 9 rfl ?_
                refine z_iload E dL_areTrialsSo_233 0 rfl ?_
                refine z_iconst (v := 1) E dL_areTrialsSo_235 (by decide) ?_
                refine z_callViN E hZ (k_person l D ad cI cR cS cL m5 (c0 := 0) (s0 := 0) hl (nI k) (nI t) 1  (fun E u h => zno (dPer1 tm5 hk h7 hpp3 ht) h)) gL_areTrialsSo_X5_person (n := 3) rfl rfl rfl (by decide +kernel) rfl ⟨(Nat.le_of_ble_eq_true rfl), (Nat.le_of_ble_eq_true rfl)⟩ (C := RX5) rfl 106 cw_lad (As := [.int (nI k), .int (nI t), .int 1]) (rest := [.int ht0]) rfl (Nat.le_of_ble_eq_true rfl) ⟨(Nat.le_of_ble_eq_true rfl), (Nat.le_of_ble_eq_true rfl)⟩ dL_areTrialsSo_236 (fun E u h => zno (dPer1 tm5 hk h7 hpp3 ht) h) (fun r u hp => ?_)
                rw [(zyes (dPer1 tm5 hk h7 hpp3 ht) hp).1, (zyes (dPer1 tm5 hk h7 hpp3 ht) hp).2]
                refine z_icmp_lt_f (tgt := 258) E dL_areTrialsSo_239 (by decide) hh1 ?_
                refine z_aload_n E dL_areTrialsSo_242 rfl 8 rfl ?_
                refine z_iload_n E dL_areTrialsSo_243 rfl 9 rfl ?_
                refine z_iload E dL_areTrialsSo_244 0 rfl ?_
                refine z_callViN E hZ (k_highest l D ad cI cR cS cL m5 (c0 := 0) (s0 := 0) hl (nI k) (nI t) (zTrA tm5 hA) (fun E h => znol ((dHigh tm5 hk h7 hpp3 ht).trans (congrArg Sum.inr hht.symm)) h)) gL_areTrialsSo_X5_highest (n := 2) rfl rfl rfl (by decide +kernel) rfl ⟨(Nat.le_of_ble_eq_true rfl), (Nat.le_of_ble_eq_true rfl)⟩ (C := RX5) rfl 106 cw_lad (As := [.int (nI k), .int (nI t)]) (rest := []) rfl (Nat.le_of_ble_eq_true rfl) ⟨(Nat.le_of_ble_eq_true rfl), (Nat.le_of_ble_eq_true rfl)⟩ dL_areTrialsSo_246 (fun E u h => znol ((dHigh tm5 hk h7 hpp3 ht).trans (congrArg Sum.inr hht.symm)) h.1) (fun r m6 hp => ?_)
                rw [zyesl ((dHigh tm5 hk h7 hpp3 ht).trans (congrArg Sum.inr hht.symm)) hp.1]
                have tm6 : zTr mem m6 := tm5.trans hp.2
                refine z_bipush (v := 11) E dL_areTrialsSo_249 (by decide) ?_
                refine z_icmp_ge_f (tgt := 258) E dL_areTrialsSo_251 (by decide) hh2 ?_
                refine z_iconst (v := 1) E dL_areTrialsSo_254 (by decide) ?_
                refine z_goto (tgt := 259) E dL_areTrialsSo_255 (by decide) ?_
                refine z_istore (lv' := [(8, .int 1), (9, .int (nI t)), (7, .int 0), (6, .int rk), (5, .int (nI pp)), (4, .int bs), (3, .int wl), (2, .int nr), (0, .ref (ad 106)), (1, .int (nI k))]) E dL_areTrialsSo_259 (by decide) rfl ?_
                refine z_iinc (v := nI t + 1) (lv' := [(9, .int (nI t + 1)), (8, .int 1), (7, .int 0), (6, .int rk), (5, .int (nI pp)), (4, .int bs), (3, .int wl), (2, .int nr), (0, .ref (ad 106)), (1, .int (nI k))]) E dL_areTrialsSo_261 (q := 1) rfl rfl (by decide) rfl ?_
                refine z_goto (tgt := 212) E dL_areTrialsSo_264 (by decide) ?_
                refine z_eq (ws' := cw ad cI cR cS m6) (lv' := [(9, .int (nI (t + 1))), (8, .int 1), (7, .int 0), (6, .int rk), (5, .int (nI pp)), (4, .int bs), (3, .int wl), (2, .int nr), (0, .ref (ad 106)), (1, .int (nI k))]) (st' := []) rfl (by rw [← nI_1 t]) rfl ?_
                exact ih212 (n212 - 1) (m6, t + 1) (by omega) ⟨by show t + 1 + (n212 - 1) = pp; omega, tm6⟩
            · skip
              refine z_if_ne (tgt := 190) E dL_areTrialsSo_178 (by decide) (fun c178 => ?_) (fun c178 => ?_)
              · skip
                refine z_iload E dL_areTrialsSo_190 1 rfl ?_
                refine z_if_lt_f (tgt := 206) E dL_areTrialsSo_192 (by decide) (d2 (fun q => c178 (by rw [q]; rfl))).1 ?_
                refine z_iload E dL_areTrialsSo_195 1 rfl ?_
                refine z_iload E dL_areTrialsSo_197 2 rfl ?_
                refine z_icmp_ge_f (tgt := 206) E dL_areTrialsSo_199 (by decide) (d2 (fun q => c178 (by rw [q]; rfl))).2 ?_
                exact J202 _ rfl
              · skip
                refine z_iload E dL_areTrialsSo_181 1 rfl ?_
                refine z_iconst (v := -1) E dL_areTrialsSo_183 (by decide) ?_
                refine z_icmp_ne_f (tgt := 206) E dL_areTrialsSo_184 (by decide) (d1 (zn0 hpp3 c178)) ?_
                refine z_goto (tgt := 202) E dL_areTrialsSo_187 (by decide) ?_
                exact J202 _ rfl
          · skip
            refine z_icmp_eq (tgt := 176) E dL_areTrialsSo_152 (by decide) (fun c152 => ?_) (fun c152 => ?_)
            · skip
              exact J176 _ rfl
            · skip
              refine z_iload E dL_areTrialsSo_155 3 rfl ?_
              refine z_bipush (v := 10) E dL_areTrialsSo_157 (by decide) ?_
              refine z_icmp_lt_f (tgt := 206) E dL_areTrialsSo_159 (by decide) (k1.resolve_left c152).1 ?_
              refine z_iload E dL_areTrialsSo_162 3 rfl ?_
              refine z_bipush (v := 100) E dL_areTrialsSo_164 (by decide) ?_
              refine z_icmp_gt_f (tgt := 206) E dL_areTrialsSo_166 (by decide) (k1.resolve_left c152).2.1 ?_
              refine z_iload E dL_areTrialsSo_169 3 rfl ?_
              refine z_iconst (v := 5) E dL_areTrialsSo_171 (by decide) ?_
              refine z_irem E dL_areTrialsSo_172 (by decide) ?_
              refine z_if_ne_f (tgt := 206) E dL_areTrialsSo_173 (by decide) (k1.resolve_left c152).2.2 ?_
              exact J176 _ rfl
        · skip
          refine z_if_eq (tgt := 149) E dL_areTrialsSo_140 (by decide) (fun c140 => ?_) (fun c140 => ?_)
          · skip
            exact J149 _ rfl
          · skip
            refine z_iload_n E dL_areTrialsSo_143 rfl 4 rfl ?_
            refine z_bipush (v := 15) E dL_areTrialsSo_144 (by decide) ?_
            refine z_icmp_ne_f (tgt := 206) E dL_areTrialsSo_146 (by decide) (w3.resolve_left c140) ?_
            exact J149 _ rfl
      · skip
        refine z_if_eq (tgt := 137) E dL_areTrialsSo_128 (by decide) (fun c128 => ?_) (fun c128 => ?_)
        · skip
          exact J137 _ rfl
        · skip
          refine z_iload_n E dL_areTrialsSo_131 rfl 4 rfl ?_
          refine z_iconst (v := 4) E dL_areTrialsSo_132 (by decide) ?_
          refine z_iand E dL_areTrialsSo_133 ?_
          refine z_if_eq_f (tgt := 206) E dL_areTrialsSo_134 (by decide) (w2.resolve_left c128) ?_
          exact J137 _ rfl
    · skip
      refine z_icmp_eq (tgt := 102) E dL_areTrialsSo_89 (by decide) (fun c89 => ?_) (fun c89 => ?_)
      · skip
        exact J102 _ rfl
      · skip
        refine z_iload_n E dL_areTrialsSo_92 rfl 5 rfl ?_
        refine z_aload_n E dL_areTrialsSo_93 rfl 6 rfl ?_
        refine z_iload_n E dL_areTrialsSo_94 rfl 7 rfl ?_
        refine z_iconst (v := 5) E dL_areTrialsSo_95 (by decide) ?_
        refine z_callViN E hZ (k_ladder l D ad cI cR cS cL m4 (c0 := 0) (s0 := 0) hl (nI k) 5  (fun E u h => zno (dLad5 tm4 hk) h)) gL_areTrialsSo_X5_ladder (n := 2) rfl rfl rfl (by decide +kernel) rfl ⟨(Nat.le_of_ble_eq_true rfl), (Nat.le_of_ble_eq_true rfl)⟩ (C := RX5) rfl 106 cw_lad (As := [.int (nI k), .int 5]) (rest := [.int nr]) rfl (Nat.le_of_ble_eq_true rfl) ⟨(Nat.le_of_ble_eq_true rfl), (Nat.le_of_ble_eq_true rfl)⟩ dL_areTrialsSo_96 (fun E u h => zno (dLad5 tm4 hk) h) (fun r u hp => ?_)
        rw [(zyes (dLad5 tm4 hk) hp).1, (zyes (dLad5 tm4 hk) hp).2]
        refine z_icmp_le_f (tgt := 206) E dL_areTrialsSo_99 (by decide) ((r4 hst).resolve_left c89) ?_
        exact J102 _ rfl
  · skip
    have s1 := fStands_ne _ hst
    refine z_aload_n E dL_areTrialsSo_0 rfl 0 rfl ?_
    refine z_iload_n E dL_areTrialsSo_1 rfl 1 rfl ?_
    refine z_callViN E hZ (k_neededRope l D ad cI cR cS cL mem (c0 := 0) (s0 := 0) hl (nI k)  (fun E h => znol ((dNeeded zTr.rfl' hk).trans (congrArg Sum.inr hnr.symm)) h)) gL_areTrialsSo_X5_neededRope (n := 1) rfl rfl rfl (by decide +kernel) rfl ⟨(Nat.le_of_ble_eq_true rfl), (Nat.le_of_ble_eq_true rfl)⟩ (C := RX5) rfl 106 cw_lad (As := [.int (nI k)]) (rest := []) rfl (Nat.le_of_ble_eq_true rfl) ⟨(Nat.le_of_ble_eq_true rfl), (Nat.le_of_ble_eq_true rfl)⟩ dL_areTrialsSo_2 (fun E u h => znol ((dNeeded zTr.rfl' hk).trans (congrArg Sum.inr hnr.symm)) h.1) (fun r m7 hp => ?_)
    rw [zyesl ((dNeeded zTr.rfl' hk).trans (congrArg Sum.inr hnr.symm)) hp.1]
    have tm7 : zTr mem m7 := zTr.rfl'.trans hp.2
    refine z_istore_n (lv' := [(2, .int nr), (0, .ref (ad 106)), (1, .int (nI k))]) E dL_areTrialsSo_5 rfl (by decide) rfl ?_
    refine z_aload_n E dL_areTrialsSo_6 rfl 1 rfl ?_
    refine z_iload_n E dL_areTrialsSo_7 rfl 2 rfl ?_
    refine z_callViN E hZ (k_walls l D ad cI cR cS cL m7 (c0 := 0) (s0 := 0) hl (nI k)  (fun E h => znol ((dWalls tm7 hk).trans (congrArg Sum.inr hwl.symm)) h)) gL_areTrialsSo_X5_walls (n := 1) rfl rfl rfl (by decide +kernel) rfl ⟨(Nat.le_of_ble_eq_true rfl), (Nat.le_of_ble_eq_true rfl)⟩ (C := RX5) rfl 106 cw_lad (As := [.int (nI k)]) (rest := []) rfl (Nat.le_of_ble_eq_true rfl) ⟨(Nat.le_of_ble_eq_true rfl), (Nat.le_of_ble_eq_true rfl)⟩ dL_areTrialsSo_8 (fun E u h => znol ((dWalls tm7 hk).trans (congrArg Sum.inr hwl.symm)) h.1) (fun r m8 hp => ?_)
    rw [zyesl ((dWalls tm7 hk).trans (congrArg Sum.inr hwl.symm)) hp.1]
    have tm8 : zTr mem m8 := tm7.trans hp.2
    refine z_istore_n (lv' := [(3, .int wl), (2, .int nr), (0, .ref (ad 106)), (1, .int (nI k))]) E dL_areTrialsSo_11 rfl (by decide) rfl ?_
    refine z_aload_n E dL_areTrialsSo_12 rfl 2 rfl ?_
    refine z_iload_n E dL_areTrialsSo_13 rfl 3 rfl ?_
    refine z_callViN E hZ (k_bestBase l D ad cI cR cS cL m8 (c0 := 0) (s0 := 0) hl (nI k)  (fun E h => znol ((dBest tm8 hk).trans (congrArg Sum.inr hbs.symm)) h)) gL_areTrialsSo_X5_bestBase (n := 1) rfl rfl rfl (by decide +kernel) rfl ⟨(Nat.le_of_ble_eq_true rfl), (Nat.le_of_ble_eq_true rfl)⟩ (C := RX5) rfl 106 cw_lad (As := [.int (nI k)]) (rest := []) rfl (Nat.le_of_ble_eq_true rfl) ⟨(Nat.le_of_ble_eq_true rfl), (Nat.le_of_ble_eq_true rfl)⟩ dL_areTrialsSo_14 (fun E u h => znol ((dBest tm8 hk).trans (congrArg Sum.inr hbs.symm)) h.1) (fun r m9 hp => ?_)
    rw [zyesl ((dBest tm8 hk).trans (congrArg Sum.inr hbs.symm)) hp.1]
    have tm9 : zTr mem m9 := tm8.trans hp.2
    refine z_istore (lv' := [(4, .int bs), (3, .int wl), (2, .int nr), (0, .ref (ad 106)), (1, .int (nI k))]) E dL_areTrialsSo_17 (by decide) rfl ?_
    refine z_aload_n E dL_areTrialsSo_19 rfl 3 rfl ?_
    refine z_iload_n E dL_areTrialsSo_20 rfl 4 rfl ?_
    refine z_bipush (v := 6) E dL_areTrialsSo_21 (by decide) ?_
    refine z_callViN E hZ (k_ladder l D ad cI cR cS cL m9 (c0 := 0) (s0 := 0) hl (nI k) 6  (fun E u h => zno (dLad6 tm9 hk) h)) gL_areTrialsSo_X5_ladder (n := 2) rfl rfl rfl (by decide +kernel) rfl ⟨(Nat.le_of_ble_eq_true rfl), (Nat.le_of_ble_eq_true rfl)⟩ (C := RX5) rfl 106 cw_lad (As := [.int (nI k), .int 6]) (rest := []) rfl (Nat.le_of_ble_eq_true rfl) ⟨(Nat.le_of_ble_eq_true rfl), (Nat.le_of_ble_eq_true rfl)⟩ dL_areTrialsSo_23 (fun E u h => zno (dLad6 tm9 hk) h) (fun r u hp => ?_)
    rw [(zyes (dLad6 tm9 hk) hp).1, (zyes (dLad6 tm9 hk) hp).2]
    rw [h7]
    refine z_istore (lv' := [(5, .int (nI pp)), (4, .int bs), (3, .int wl), (2, .int nr), (0, .ref (ad 106)), (1, .int (nI k))]) E dL_areTrialsSo_26 (by decide) rfl ?_
    refine z_aload_n E dL_areTrialsSo_28 rfl 4 rfl ?_
    refine z_iload_n E dL_areTrialsSo_29 rfl 5 rfl ?_
    refine z_callViN E hZ (k_riskiest l D ad cI cR cS cL m9 (c0 := 0) (s0 := 0) hl (nI k) (zTr3 tm9 h3) (fun E h => znol ((dRisk tm9 hk).trans (congrArg Sum.inr hrk.symm)) h)) gL_areTrialsSo_X5_riskiest (n := 1) rfl rfl rfl (by decide +kernel) rfl ⟨(Nat.le_of_ble_eq_true rfl), (Nat.le_of_ble_eq_true rfl)⟩ (C := RX5) rfl 106 cw_lad (As := [.int (nI k)]) (rest := []) rfl (Nat.le_of_ble_eq_true rfl) ⟨(Nat.le_of_ble_eq_true rfl), (Nat.le_of_ble_eq_true rfl)⟩ dL_areTrialsSo_30 (fun E u h => znol ((dRisk tm9 hk).trans (congrArg Sum.inr hrk.symm)) h.1) (fun r m10 hp => ?_)
    rw [zyesl ((dRisk tm9 hk).trans (congrArg Sum.inr hrk.symm)) hp.1]
    have tm10 : zTr mem m10 := tm9.trans hp.2
    refine z_istore (lv' := [(6, .int rk), (5, .int (nI pp)), (4, .int bs), (3, .int wl), (2, .int nr), (0, .ref (ad 106)), (1, .int (nI k))]) E dL_areTrialsSo_33 (by decide) rfl ?_
    refine z_aload_n E dL_areTrialsSo_35 rfl 5 rfl ?_
    refine z_iload_n E dL_areTrialsSo_36 rfl 6 rfl ?_
    refine z_bipush (v := 10) E dL_areTrialsSo_37 (by decide) ?_
    refine z_callViN E hZ (k_ladder l D ad cI cR cS cL m10 (c0 := 0) (s0 := 0) hl (nI k) 10  (fun E u h => zno (dLad10 tm10 hk) h)) gL_areTrialsSo_X5_ladder (n := 2) rfl rfl rfl (by decide +kernel) rfl ⟨(Nat.le_of_ble_eq_true rfl), (Nat.le_of_ble_eq_true rfl)⟩ (C := RX5) rfl 106 cw_lad (As := [.int (nI k), .int 10]) (rest := []) rfl (Nat.le_of_ble_eq_true rfl) ⟨(Nat.le_of_ble_eq_true rfl), (Nat.le_of_ble_eq_true rfl)⟩ dL_areTrialsSo_39 (fun E u h => zno (dLad10 tm10 hk) h) (fun r u hp => ?_)
    rw [(zyes (dLad10 tm10 hk) hp).1, (zyes (dLad10 tm10 hk) hp).2]
    refine z_iconst (v := 1) E dL_areTrialsSo_42 (by decide) ?_
    refine z_icmp_ne_f (tgt := 50) E dL_areTrialsSo_43 (by decide) s1 ?_
    refine z_iconst (v := 1) E dL_areTrialsSo_46 (by decide) ?_
    refine z_goto (tgt := 51) E dL_areTrialsSo_47 (by decide) ?_
    refine z_istore (lv' := [(7, .int 1), (6, .int rk), (5, .int (nI pp)), (4, .int bs), (3, .int wl), (2, .int nr), (0, .ref (ad 106)), (1, .int (nI k))]) E dL_areTrialsSo_51 (by decide) rfl ?_
    refine z_iload_n E dL_areTrialsSo_53 rfl 5 rfl ?_
    refine z_iconst (v := -1) E dL_areTrialsSo_54 (by decide) ?_
    refine z_icmp_lt_f (tgt := 206) E dL_areTrialsSo_55 (by decide) r1 ?_
    refine z_iload_n E dL_areTrialsSo_58 rfl 5 rfl ?_
    refine z_sipush (v := 200) E dL_areTrialsSo_59 (by decide) ?_
    refine z_icmp_gt_f (tgt := 206) E dL_areTrialsSo_62 (by decide) r2 ?_
    refine z_iload E dL_areTrialsSo_65 0 rfl ?_
    refine z_if_eq_f (tgt := 87) E dL_areTrialsSo_67 (by decide) (by decide) ?_
    refine z_iload_n E dL_areTrialsSo_70 rfl 5 rfl ?_
    refine z_if_lt_f (tgt := 206) E dL_areTrialsSo_71 (by decide) (r3 hst).1 ?_
    refine z_iload_n E dL_areTrialsSo_74 rfl 5 rfl ?_
    refine z_aload_n E dL_areTrialsSo_75 rfl 6 rfl ?_
    refine z_iload_n E dL_areTrialsSo_76 rfl 7 rfl ?_
    refine z_iconst (v := 5) E dL_areTrialsSo_77 (by decide) ?_
    refine z_callViN E hZ (k_ladder l D ad cI cR cS cL m10 (c0 := 0) (s0 := 0) hl (nI k) 5  (fun E u h => zno (dLad5 tm10 hk) h)) gL_areTrialsSo_X5_ladder (n := 2) rfl rfl rfl (by decide +kernel) rfl ⟨(Nat.le_of_ble_eq_true rfl), (Nat.le_of_ble_eq_true rfl)⟩ (C := RX5) rfl 106 cw_lad (As := [.int (nI k), .int 5]) (rest := [.int nr]) rfl (Nat.le_of_ble_eq_true rfl) ⟨(Nat.le_of_ble_eq_true rfl), (Nat.le_of_ble_eq_true rfl)⟩ dL_areTrialsSo_78 (fun E u h => zno (dLad5 tm10 hk) h) (fun r u hp => ?_)
    rw [(zyes (dLad5 tm10 hk) hp).1, (zyes (dLad5 tm10 hk) hp).2]
    refine z_icmp_gt_f (tgt := 206) E dL_areTrialsSo_81 (by decide) (r3 hst).2 ?_
    refine z_goto (tgt := 102) E dL_areTrialsSo_84 (by decide) ?_
    refine z_iload_n E dL_areTrialsSo_102 rfl 4 rfl ?_
    refine z_aload_n E dL_areTrialsSo_103 rfl 6 rfl ?_
    refine z_iload_n E dL_areTrialsSo_104 rfl 7 rfl ?_
    refine z_iconst (v := 4) E dL_areTrialsSo_105 (by decide) ?_
    refine z_callViN E hZ (k_ladder l D ad cI cR cS cL m10 (c0 := 0) (s0 := 0) hl (nI k) 4  (fun E u h => zno (dLad4 tm10 hk) h)) gL_areTrialsSo_X5_ladder (n := 2) rfl rfl rfl (by decide +kernel) rfl ⟨(Nat.le_of_ble_eq_true rfl), (Nat.le_of_ble_eq_true rfl)⟩ (C := RX5) rfl 106 cw_lad (As := [.int (nI k), .int 4]) (rest := [.int wl]) rfl (Nat.le_of_ble_eq_true rfl) ⟨(Nat.le_of_ble_eq_true rfl), (Nat.le_of_ble_eq_true rfl)⟩ dL_areTrialsSo_106 (fun E u h => zno (dLad4 tm10 hk) h) (fun r u hp => ?_)
    rw [(zyes (dLad4 tm10 hk) hp).1, (zyes (dLad4 tm10 hk) hp).2]
    refine z_ishr E dL_areTrialsSo_109 ?_
    refine z_iconst (v := 1) E dL_areTrialsSo_110 (by decide) ?_
    refine z_iand E dL_areTrialsSo_111 ?_
    refine z_iload E dL_areTrialsSo_112 0 rfl ?_
    refine z_if_eq_f (tgt := 121) E dL_areTrialsSo_114 (by decide) (by decide) ?_
    refine z_iconst (v := 1) E dL_areTrialsSo_117 (by decide) ?_
    refine z_goto (tgt := 122) E dL_areTrialsSo_118 (by decide) ?_
    refine z_icmp_ne_f (tgt := 206) E dL_areTrialsSo_122 (by decide) (w1.trans s1) ?_
    refine z_iload_n E dL_areTrialsSo_125 rfl 4 rfl ?_
    refine z_iconst (v := 2) E dL_areTrialsSo_126 (by decide) ?_
    refine z_iand E dL_areTrialsSo_127 ?_
    refine z_join (fun v137 => v137 = wl) (pc2 := 137) (c2 := 0) (s2 := 0) (lv2 := (fun v137 => [(7, .int 1), (6, .int rk), (5, .int (nI pp)), (4, .int bs), (3, .int v137), (2, .int nr), (0, .ref (ad 106)), (1, .int (nI k))])) (st2 := (fun _ => [])) (fun v137 hv137 => ?_) (fun J137 => ?_)
    · rw [hv137]
      refine z_iload_n E dL_areTrialsSo_137 rfl 4 rfl ?_
      refine z_iconst (v := 1) E dL_areTrialsSo_138 (by decide) ?_
      refine z_iand E dL_areTrialsSo_139 ?_
      refine z_join (fun v149 => v149 = wl) (pc2 := 149) (c2 := 0) (s2 := 0) (lv2 := (fun v149 => [(7, .int 1), (6, .int rk), (5, .int (nI pp)), (4, .int bs), (3, .int v149), (2, .int nr), (0, .ref (ad 106)), (1, .int (nI k))])) (st2 := (fun _ => [])) (fun v149 hv149 => ?_) (fun J149 => ?_)
      · rw [hv149]
        refine z_iload E dL_areTrialsSo_149 3 rfl ?_
        refine z_iconst (v := -1) E dL_areTrialsSo_151 (by decide) ?_
        refine z_join (fun v176 => v176 = bs) (pc2 := 176) (c2 := 0) (s2 := 0) (lv2 := (fun v176 => [(7, .int 1), (6, .int rk), (5, .int (nI pp)), (4, .int v176), (3, .int wl), (2, .int nr), (0, .ref (ad 106)), (1, .int (nI k))])) (st2 := (fun _ => [])) (fun v176 hv176 => ?_) (fun J176 => ?_)
        · rw [hv176]
          refine z_iload E dL_areTrialsSo_176 2 rfl ?_
          refine z_join (fun v202 => v202 = rk) (pc2 := 202) (c2 := 0) (s2 := 0) (lv2 := (fun v202 => [(7, .int 1), (6, .int v202), (5, .int (nI pp)), (4, .int bs), (3, .int wl), (2, .int nr), (0, .ref (ad 106)), (1, .int (nI k))])) (st2 := (fun _ => [])) (fun v202 hv202 => ?_) (fun J202 => ?_)
          · rw [hv202]
            refine z_iconst (v := 1) E dL_areTrialsSo_202 (by decide) ?_
            refine z_goto (tgt := 207) E dL_areTrialsSo_203 (by decide) ?_
            refine z_istore (lv' := [(8, .int 1), (7, .int 1), (6, .int rk), (5, .int (nI pp)), (4, .int bs), (3, .int wl), (2, .int nr), (0, .ref (ad 106)), (1, .int (nI k))]) E dL_areTrialsSo_207 (by decide) rfl ?_
            refine z_iconst (v := 0) E dL_areTrialsSo_209 (by decide) ?_
            refine z_istore (lv' := [(9, .int 0), (8, .int 1), (7, .int 1), (6, .int rk), (5, .int (nI pp)), (4, .int bs), (3, .int wl), (2, .int nr), (0, .ref (ad 106)), (1, .int (nI k))]) E dL_areTrialsSo_210 (by decide) rfl ?_
            refine z_loop (σ := zM × Nat) (fun n y => y.2 + n = pp ∧ zTr mem y.1) (fun y => cw ad cI cR cS y.1) (fun y => [(9, .int (nI y.2)), (8, .int 1), (7, .int 1), (6, .int rk), (5, .int (nI pp)), (4, .int bs), (3, .int wl), (2, .int nr), (0, .ref (ad 106)), (1, .int (nI k))]) 212 0 0 ?_ pp (m10, 0) ⟨Nat.zero_add _, tm10⟩ rfl rfl rfl rfl rfl
            rintro n212 ⟨m, t⟩ ⟨hi212, htr⟩ ih212
            dsimp only at hi212 htr ⊢
            refine z_iload E dL_areTrialsSo_212 0 rfl ?_
            refine z_iload E dL_areTrialsSo_214 4 rfl ?_
            refine z_icmp_ge (tgt := 267) E dL_areTrialsSo_216 (by decide) (fun c216 => ?_) (fun c216 => ?_)
            · skip
              refine z_iload E dL_areTrialsSo_267 1 rfl ?_
              refine z_if_eq_f (tgt := 297) E dL_areTrialsSo_269 (by decide) (by decide) ?_
              refine z_aload_n E dL_areTrialsSo_272 rfl 8 rfl ?_
              refine z_iload_n E dL_areTrialsSo_273 rfl 9 rfl ?_
              refine z_iconst (v := 0) E dL_areTrialsSo_274 (by decide) ?_
              refine z_callViN E hZ (k_ladder l D ad cI cR cS cL m (c0 := 0) (s0 := 0) hl (nI k) 0  (fun E u h => zno (dLad0 htr hk) h)) gL_areTrialsSo_X5_ladder (n := 2) rfl rfl rfl (by decide +kernel) rfl ⟨(Nat.le_of_ble_eq_true rfl), (Nat.le_of_ble_eq_true rfl)⟩ (C := RX5) rfl 106 cw_lad (As := [.int (nI k), .int 0]) (rest := []) rfl (Nat.le_of_ble_eq_true rfl) ⟨(Nat.le_of_ble_eq_true rfl), (Nat.le_of_ble_eq_true rfl)⟩ dL_areTrialsSo_275 (fun E u h => zno (dLad0 htr hk) h) (fun r u hp => ?_)
              rw [(zyes (dLad0 htr hk) hp).1, (zyes (dLad0 htr hk) hp).2]
              refine z_iconst (v := 5) E dL_areTrialsSo_278 (by decide) ?_
              refine z_irem E dL_areTrialsSo_279 (by decide) ?_
              refine z_if_ne (tgt := 293) E dL_areTrialsSo_280 (by decide) (fun c280 => ?_) (fun c280 => ?_)
              · skip
                refine z_iconst (v := 1) E dL_areTrialsSo_293 (by decide) ?_
                refine z_goto (tgt := 298) E dL_areTrialsSo_294 (by decide) ?_
                exact z_izretM E hr hlocks (m) rfl rfl ⟨rfl, htr⟩ (Nat.le_of_ble_eq_true rfl) (Nat.le_of_ble_eq_true rfl) dL_areTrialsSo_298
              · skip
                refine z_iload E dL_areTrialsSo_283 2 rfl ?_
                refine z_if_eq_f (tgt := 293) E dL_areTrialsSo_285 (by decide) (by decide) ?_
                refine z_iload E dL_areTrialsSo_288 5 rfl ?_
                refine z_if_le_f (tgt := 297) E dL_areTrialsSo_290 (by decide) (k2 c280 hst) ?_
                refine z_iconst (v := 1) E dL_areTrialsSo_293 (by decide) ?_
                refine z_goto (tgt := 298) E dL_areTrialsSo_294 (by decide) ?_
                exact z_izretM E hr hlocks (m) rfl rfl ⟨rfl, htr⟩ (Nat.le_of_ble_eq_true rfl) (Nat.le_of_ble_eq_true rfl) dL_areTrialsSo_298
            · skip
              have ht : t < pp := zklt (k := t) (L := pp) (by omega) (by omega) c216
              obtain ⟨ht0, hht⟩ : ∃ v, v = fHi (rv mem k) t := ⟨_, rfl⟩
              obtain ⟨hh1, hh2⟩ := fHi_of hpp ht
              rw [← hht] at hh1 hh2
              refine z_iload E dL_areTrialsSo_219 1 rfl ?_
              refine z_if_eq_f (tgt := 258) E dL_areTrialsSo_221 (by decide) (by decide) ?_
              refine z_aload_n E dL_areTrialsSo_224 rfl 8 rfl ?_
              refine z_iload_n E dL_areTrialsSo_225 rfl 9 rfl ?_
              refine z_iload E dL_areTrialsSo_226 0 rfl ?_
              refine z_callViN E hZ (k_highest l D ad cI cR cS cL m (c0 := 0) (s0 := 0) hl (nI k) (nI t) (zTrA htr hA) (fun E h => znol ((dHigh htr hk h7 hpp3 ht).trans (congrArg Sum.inr hht.symm)) h)) gL_areTrialsSo_X5_highest (n := 2) rfl rfl rfl (by decide +kernel) rfl ⟨(Nat.le_of_ble_eq_true rfl), (Nat.le_of_ble_eq_true rfl)⟩ (C := RX5) rfl 106 cw_lad (As := [.int (nI k), .int (nI t)]) (rest := []) rfl (Nat.le_of_ble_eq_true rfl) ⟨(Nat.le_of_ble_eq_true rfl), (Nat.le_of_ble_eq_true rfl)⟩ dL_areTrialsSo_228 (fun E u h => znol ((dHigh htr hk h7 hpp3 ht).trans (congrArg Sum.inr hht.symm)) h.1) (fun r m11 hp => ?_)
              rw [zyesl ((dHigh htr hk h7 hpp3 ht).trans (congrArg Sum.inr hht.symm)) hp.1]
              have tm11 : zTr mem m11 := htr.trans hp.2
              refine z_aload_n E dL_areTrialsSo_231 rfl 8 rfl ?_
              refine z_iload_n E dL_areTrialsSo_232 rfl 9 rfl ?_
              refine z_iload E dL_areTrialsSo_233 0 rfl ?_
              refine z_iconst (v := 1) E dL_areTrialsSo_235 (by decide) ?_
              refine z_callViN E hZ (k_person l D ad cI cR cS cL m11 (c0 := 0) (s0 := 0) hl (nI k) (nI t) 1  (fun E u h => zno (dPer1 tm11 hk h7 hpp3 ht) h)) gL_areTrialsSo_X5_person (n := 3) rfl rfl rfl (by decide +kernel) rfl ⟨(Nat.le_of_ble_eq_true rfl), (Nat.le_of_ble_eq_true rfl)⟩ (C := RX5) rfl 106 cw_lad (As := [.int (nI k), .int (nI t), .int 1]) (rest := [.int ht0]) rfl (Nat.le_of_ble_eq_true rfl) ⟨(Nat.le_of_ble_eq_true rfl), (Nat.le_of_ble_eq_true rfl)⟩ dL_areTrialsSo_236 (fun E u h => zno (dPer1 tm11 hk h7 hpp3 ht) h) (fun r u hp => ?_)
              rw [(zyes (dPer1 tm11 hk h7 hpp3 ht) hp).1, (zyes (dPer1 tm11 hk h7 hpp3 ht) hp).2]
              refine z_icmp_lt_f (tgt := 258) E dL_areTrialsSo_239 (by decide) hh1 ?_
              refine z_aload_n E dL_areTrialsSo_242 rfl 8 rfl ?_
              refine z_iload_n E dL_areTrialsSo_243 rfl 9 rfl ?_
              refine z_iload E dL_areTrialsSo_244 0 rfl ?_
              refine z_callViN E hZ (k_highest l D ad cI cR cS cL m11 (c0 := 0) (s0 := 0) hl (nI k) (nI t) (zTrA tm11 hA) (fun E h => znol ((dHigh tm11 hk h7 hpp3 ht).trans (congrArg Sum.inr hht.symm)) h)) gL_areTrialsSo_X5_highest (n := 2) rfl rfl rfl (by decide +kernel) rfl ⟨(Nat.le_of_ble_eq_true rfl), (Nat.le_of_ble_eq_true rfl)⟩ (C := RX5) rfl 106 cw_lad (As := [.int (nI k), .int (nI t)]) (rest := []) rfl (Nat.le_of_ble_eq_true rfl) ⟨(Nat.le_of_ble_eq_true rfl), (Nat.le_of_ble_eq_true rfl)⟩ dL_areTrialsSo_246 (fun E u h => znol ((dHigh tm11 hk h7 hpp3 ht).trans (congrArg Sum.inr hht.symm)) h.1) (fun r m12 hp => ?_)
              rw [zyesl ((dHigh tm11 hk h7 hpp3 ht).trans (congrArg Sum.inr hht.symm)) hp.1]
              have tm12 : zTr mem m12 := tm11.trans hp.2
              refine z_bipush (v := 11) E dL_areTrialsSo_249 (by decide) ?_
              refine z_icmp_ge_f (tgt := 258) E dL_areTrialsSo_251 (by decide) hh2 ?_
              refine z_iconst (v := 1) E dL_areTrialsSo_254 (by decide) ?_
              refine z_goto (tgt := 259) E dL_areTrialsSo_255 (by decide) ?_
              refine z_istore (lv' := [(8, .int 1), (9, .int (nI t)), (7, .int 1), (6, .int rk), (5, .int (nI pp)), (4, .int bs), (3, .int wl), (2, .int nr), (0, .ref (ad 106)), (1, .int (nI k))]) E dL_areTrialsSo_259 (by decide) rfl ?_
              refine z_iinc (v := nI t + 1) (lv' := [(9, .int (nI t + 1)), (8, .int 1), (7, .int 1), (6, .int rk), (5, .int (nI pp)), (4, .int bs), (3, .int wl), (2, .int nr), (0, .ref (ad 106)), (1, .int (nI k))]) E dL_areTrialsSo_261 (q := 1) rfl rfl (by decide) rfl ?_
              refine z_goto (tgt := 212) E dL_areTrialsSo_264 (by decide) ?_
              refine z_eq (ws' := cw ad cI cR cS m12) (lv' := [(9, .int (nI (t + 1))), (8, .int 1), (7, .int 1), (6, .int rk), (5, .int (nI pp)), (4, .int bs), (3, .int wl), (2, .int nr), (0, .ref (ad 106)), (1, .int (nI k))]) (st' := []) rfl (by rw [← nI_1 t]) rfl ?_
              exact ih212 (n212 - 1) (m12, t + 1) (by omega) ⟨by show t + 1 + (n212 - 1) = pp; omega, tm12⟩
          · skip
            refine z_if_ne (tgt := 190) E dL_areTrialsSo_178 (by decide) (fun c178 => ?_) (fun c178 => ?_)
            · skip
              refine z_iload E dL_areTrialsSo_190 1 rfl ?_
              refine z_if_lt_f (tgt := 206) E dL_areTrialsSo_192 (by decide) (d2 (fun q => c178 (by rw [q]; rfl))).1 ?_
              refine z_iload E dL_areTrialsSo_195 1 rfl ?_
              refine z_iload E dL_areTrialsSo_197 2 rfl ?_
              refine z_icmp_ge_f (tgt := 206) E dL_areTrialsSo_199 (by decide) (d2 (fun q => c178 (by rw [q]; rfl))).2 ?_
              exact J202 _ rfl
            · skip
              refine z_iload E dL_areTrialsSo_181 1 rfl ?_
              refine z_iconst (v := -1) E dL_areTrialsSo_183 (by decide) ?_
              refine z_icmp_ne_f (tgt := 206) E dL_areTrialsSo_184 (by decide) (d1 (zn0 hpp3 c178)) ?_
              refine z_goto (tgt := 202) E dL_areTrialsSo_187 (by decide) ?_
              exact J202 _ rfl
        · skip
          refine z_icmp_eq (tgt := 176) E dL_areTrialsSo_152 (by decide) (fun c152 => ?_) (fun c152 => ?_)
          · skip
            exact J176 _ rfl
          · skip
            refine z_iload E dL_areTrialsSo_155 3 rfl ?_
            refine z_bipush (v := 10) E dL_areTrialsSo_157 (by decide) ?_
            refine z_icmp_lt_f (tgt := 206) E dL_areTrialsSo_159 (by decide) (k1.resolve_left c152).1 ?_
            refine z_iload E dL_areTrialsSo_162 3 rfl ?_
            refine z_bipush (v := 100) E dL_areTrialsSo_164 (by decide) ?_
            refine z_icmp_gt_f (tgt := 206) E dL_areTrialsSo_166 (by decide) (k1.resolve_left c152).2.1 ?_
            refine z_iload E dL_areTrialsSo_169 3 rfl ?_
            refine z_iconst (v := 5) E dL_areTrialsSo_171 (by decide) ?_
            refine z_irem E dL_areTrialsSo_172 (by decide) ?_
            refine z_if_ne_f (tgt := 206) E dL_areTrialsSo_173 (by decide) (k1.resolve_left c152).2.2 ?_
            exact J176 _ rfl
      · skip
        refine z_if_eq (tgt := 149) E dL_areTrialsSo_140 (by decide) (fun c140 => ?_) (fun c140 => ?_)
        · skip
          exact J149 _ rfl
        · skip
          refine z_iload_n E dL_areTrialsSo_143 rfl 4 rfl ?_
          refine z_bipush (v := 15) E dL_areTrialsSo_144 (by decide) ?_
          refine z_icmp_ne_f (tgt := 206) E dL_areTrialsSo_146 (by decide) (w3.resolve_left c140) ?_
          exact J149 _ rfl
    · skip
      refine z_if_eq (tgt := 137) E dL_areTrialsSo_128 (by decide) (fun c128 => ?_) (fun c128 => ?_)
      · skip
        exact J137 _ rfl
      · skip
        refine z_iload_n E dL_areTrialsSo_131 rfl 4 rfl ?_
        refine z_iconst (v := 4) E dL_areTrialsSo_132 (by decide) ?_
        refine z_iand E dL_areTrialsSo_133 ?_
        refine z_if_eq_f (tgt := 206) E dL_areTrialsSo_134 (by decide) (w2.resolve_left c128) ?_
        exact J137 _ rfl
