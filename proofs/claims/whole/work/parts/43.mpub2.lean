/-! the reference: on, off, climb -/
def fIsP (cm : zM) (x b : Int32) : Int32 := if x < 0 ∨ 4 ≤ x then 0 else fBears (rv cm x.toNatClampNeg) b
theorem fBears_01 (R : Nat → Int32) (b : Int32) : fBears R b = 0 ∨ fBears R b = 1 := f01_if (Or.inl rfl) (f01_if (Or.inl rfl) (f01_if (Or.inl rfl) (Or.inr rfl)))
theorem fIn_bears {R : Nat → Int32} {p : Nat} (hp : rPp R p) (b : Int32) : fIn b 0 (nI p - 1) = fBears R b := by
  have h3 := hp.1
  unfold fIn fBears
  rw [hp.2.1]
  have e1 : (nI p - 1).toInt = (p : Int) - 1 := zsI (zL (by omega)) (by decide) (by omega) (by omega)
  by_cases h0 : b < 0
  · rw [if_pos h0, if_pos h0]
  · rw [if_neg h0, if_neg h0]
    rw [zltI rfl zc0] at h0
    by_cases h1 : (p : Int) ≤ b.toInt
    · rw [if_pos ((zltI e1 rfl).mpr (by omega)), if_pos ((zleI (zL (by omega)) rfl).mpr h1)]
    · rw [if_neg (fun q => by have := (zltI e1 rfl).mp q; omega), if_neg (fun q => h1 ((zleI (zL (by omega)) rfl).mp q)), if_neg (fun q => by have := (zleI (show (3 : Int32).toInt = 3 by decide) rfl).mp q; omega)]
theorem fBears_lt {R : Nat → Int32} {p t : Nat} (hp : rPp R p) (ht : t < 3) (h : ¬ fBears R (nI t) = 0) : t < p := by
  have h3 := hp.1
  refine Nat.lt_of_not_le (fun q => h ?_)
  unfold fBears
  rw [hp.2.1, if_neg (nI_pos (by omega)), if_pos ((nI_leI (by omega) (by omega)).mpr q)]
theorem fFull_3 {R : Nat → Int32} {p : Nat} (hp : rPp R p) : nI p = 3 ↔ ¬ fFull R = 0 := by
  have h3 := hp.1
  unfold fFull
  rw [hp.2.1]
  by_cases q : p < 3
  · rw [if_pos (show nI p < 3 from (nI_ltI (a := p) (b := 3) (by omega) (by omega)).mpr q)]
    exact ⟨fun e => by have := (nI_eq (a := p) (b := 3) (by omega) (by omega)).mp e; omega, fun e => absurd rfl e⟩
  · rw [if_neg (show ¬ nI p < 3 from fun z => q ((nI_ltI (a := p) (b := 3) (by omega) (by omega)).mp z))]
    have : p = 3 := by omega
    subst this
    exact ⟨fun _ => by decide, fun _ => rfl⟩
set_option maxHeartbeats 1000000 in
set_option maxRecDepth 100000 in
theorem k_isPerson (l : Launch) (D : va_G) (am : Nat → Nat) (cI cR cS cL : ClassId) (dg : Int64) (mem : zM) {B : Nat} {cm : zM} {q z L : Nat} (hR : zR B cm mem q z L) (x b : Int32) : zMi l yX6_isPerson wsX6_isPerson ({ frames := 2, cells := 0, slots := 0, locals := 42 }) D (cK cI cR cS cL) [.ref (am 0), .int x, .int b] (mw am cI dg mem) (fun r u => r = fIsP cm x b ∧ u = mem) (mw am cI dg) 0 0 := by
  refine zMiM.of (cc := cX6_isPerson) (maxL := 3) (ret := (some .boolean)) (by decide +kernel) rfl (lv0 := [(0, .ref (am 0)), (1, .int x), (2, .int b)]) (Nat.le_of_ble_eq_true rfl) rfl ?_
  intro p e s m args below meth c E hZ hr hlocks hnm
  refine z_iload_n E dX6_isPerson_0 rfl 1 rfl ?_
  refine z_callSi E hZ (k_isLadder l D am cI cR cS cL dg mem x) gX6_isPerson_X6_isLadder (n := 1) rfl rfl rfl (by decide +kernel) rfl ⟨Nat.le_of_ble_eq_true rfl, Nat.le_of_ble_eq_true rfl⟩ (As := [.int x]) (rest := []) rfl (Nat.le_of_ble_eq_true rfl) ⟨Nat.le_of_ble_eq_true rfl, Nat.le_of_ble_eq_true rfl⟩ dX6_isPerson_1 (fun r u hp => ?_)
  rw [hp.1, hp.2]
  by_cases hL : x < 0 ∨ 4 ≤ x
  · skip
    rw [fIn_L0 hL]
    refine z_if_eq_t (tgt := 32) E dX6_isPerson_4 (by decide) (by decide) ?_
    refine z_iconst (v := 0) E dX6_isPerson_32 (by decide) ?_
    exact z_izretM E hr hlocks (mem) rfl rfl ⟨(if_pos hL).symm, rfl⟩ (Nat.le_of_ble_eq_true rfl) (Nat.le_of_ble_eq_true rfl) dX6_isPerson_33
  · skip
    rw [fIn_L1 hL]
    obtain ⟨k, hk, rfl⟩ := zx4 hL
    have ek : (nI k).toNatClampNeg = k := nI_clamp (by omega)
    refine z_if_eq_f (tgt := 32) E dX6_isPerson_4 (by decide) (by decide) ?_
    obtain ⟨p0, hpp, hm⟩ := hR.1.1 k hk |>.2
    rw [show 4 * 0 + k = k by omega] at hpp hm
    refine z_iload_n E dX6_isPerson_7 rfl 2 rfl ?_
    refine z_iconst (v := 0) E dX6_isPerson_8 (by decide) ?_
    refine z_aload_n E dX6_isPerson_9 rfl 0 rfl ?_
    refine z_get E 0 mw_obj (C := RX6) (T := TX6) (N := 16) rfl (fun _ h => List.mem_cons_of_mem _ (List.mem_append_right _ h)) 1 (by decide) (List.mem_of_getElem? (i := 1) (by decide +kernel)) rfl (v := .ref (am 1)) rfl dX6_isPerson_10 ?_
    refine z_iload_n E dX6_isPerson_13 rfl 1 rfl ?_
    refine z_bipush (v := 6) E dX6_isPerson_14 (by decide) ?_
    refine z_callSi E hZ (k_of l D am cI cR cS cL dg mem (nI k) 6) gX6_isPerson_X6_of (n := 2) rfl rfl rfl (by decide +kernel) rfl ⟨Nat.le_of_ble_eq_true rfl, Nat.le_of_ble_eq_true rfl⟩ (As := [.int (nI k), .int 6]) (rest := [.ref (am 1), .int 0, .int b]) rfl (Nat.le_of_ble_eq_true rfl) ⟨Nat.le_of_ble_eq_true rfl, Nat.le_of_ble_eq_true rfl⟩ dX6_isPerson_16 (fun r u hp => ?_)
    rw [hp.1, hp.2]
    rw [zof k (y := 6) (w := 6) rfl]
    refine z_iald E 1 0 mw_s rfl (vp_in_nI (by omega) (by decide)) (v := nI p0) ((congrArg (mem 1) (nI_clamp (by omega))).trans hm.2.2.2.2.2.2.1) dX6_isPerson_19 ?_
    refine z_iconst (v := 1) E dX6_isPerson_20 (by decide) ?_
    refine z_isub E dX6_isPerson_21 ?_
    refine z_callSi E hZ (k_in l D am cI cR cS cL dg mem b 0 ((nI p0) - 1)) gX6_isPerson_X6_in (n := 3) rfl rfl rfl (by decide +kernel) rfl ⟨Nat.le_of_ble_eq_true rfl, Nat.le_of_ble_eq_true rfl⟩ (As := [.int b, .int 0, .int ((nI p0) - 1)]) (rest := []) rfl (Nat.le_of_ble_eq_true rfl) ⟨Nat.le_of_ble_eq_true rfl, Nat.le_of_ble_eq_true rfl⟩ dX6_isPerson_22 (fun r u hp => ?_)
    rw [hp.1, hp.2]
    rw [fIn_bears hpp b]
    refine z_if_eq (tgt := 32) E dX6_isPerson_25 (by decide) (fun c25 => ?_) (fun c25 => ?_)
    · skip
      refine z_iconst (v := 0) E dX6_isPerson_32 (by decide) ?_
      exact z_izretM E hr hlocks (mem) rfl rfl ⟨((if_neg hL).trans (by rw [ek]; exact c25)).symm, rfl⟩ (Nat.le_of_ble_eq_true rfl) (Nat.le_of_ble_eq_true rfl) dX6_isPerson_33
    · skip
      refine z_iconst (v := 1) E dX6_isPerson_28 (by decide) ?_
      refine z_goto (tgt := 33) E dX6_isPerson_29 (by decide) ?_
      exact z_izretM E hr hlocks (mem) rfl rfl ⟨((if_neg hL).trans (by rw [ek]; exact (fBears_01 _ _).resolve_left c25)).symm, rfl⟩ (Nat.le_of_ble_eq_true rfl) (Nat.le_of_ble_eq_true rfl) dX6_isPerson_33
set_option maxHeartbeats 1000000 in
set_option maxRecDepth 100000 in
theorem k_mon (l : Launch) (D : va_G) (am : Nat → Nat) (cI cR cS cL : ClassId) (dg : Int64) (mem : zM) {B : Nat} {cm : zM} {q z L : Nat} (hR : zR B cm mem q z L) (x b : Int32) : zMi l yX6_on wsX6_on ({ frames := 6, cells := 0, slots := 0, locals := 142 }) D (cK cI cR cS cL) [.ref (am 0), .int x, .int b] (mw am cI dg mem) (fun r u => mAns cdL (fun c' => ∃ q' z', zR (B + 180) c' u q' z' L) (sOn cm q z x b) r (u 0 0)) (mw am cI dg) 0 0 := by
  refine zMiM.of (cc := cX6_on) (maxL := 3) (ret := (some .int)) (by decide +kernel) rfl (lv0 := [(0, .ref (am 0)), (1, .int x), (2, .int b)]) (Nat.le_of_ble_eq_true rfl) rfl ?_
  intro p e s m args below meth c E hZ hr hlocks hnm
  refine z_aload_n E dX6_on_0 rfl 0 rfl ?_
  refine z_iload_n E dX6_on_1 rfl 1 rfl ?_
  refine z_callSi E hZ (k_isLadder l D am cI cR cS cL dg mem x) gX6_on_X6_isLadder (n := 1) rfl rfl rfl (by decide +kernel) rfl ⟨Nat.le_of_ble_eq_true rfl, Nat.le_of_ble_eq_true rfl⟩ (As := [.int x]) (rest := [.ref (am 0)]) rfl (Nat.le_of_ble_eq_true rfl) ⟨Nat.le_of_ble_eq_true rfl, Nat.le_of_ble_eq_true rfl⟩ dX6_on_2 (fun r u hp => ?_)
  rw [hp.1, hp.2]
  by_cases hL : x < 0 ∨ 4 ≤ x
  · skip
    rw [fIn_L0 hL]
    refine z_if_ne_f (tgt := 12) E dX6_on_5 (by decide) (by decide) ?_
    refine z_iconst (v := 1) E dX6_on_8 (by decide) ?_
    refine z_goto (tgt := 48) E dX6_on_9 (by decide) ?_
    refine z_callVi E hZ (k_holds l D am cI cR cS cL dg mem 1) gX6_on_X6_holds (n := 1) rfl rfl rfl (by decide +kernel) rfl ⟨(Nat.le_of_ble_eq_true rfl), (Nat.le_of_ble_eq_true rfl)⟩ (C := RX6) rfl 0 mw_obj (As := [.int 1]) (rest := []) rfl (Nat.le_of_ble_eq_true rfl) ⟨(Nat.le_of_ble_eq_true rfl), (Nat.le_of_ble_eq_true rfl)⟩ dX6_on_48 (fun r m1 hp => ?_)
    have hm1 := hp.2
    rw [hp.1, show (if (1 : Int32) = 0 then (1 : Int32) else 0) = 0 by decide]
    have hR0 : zR B cm m1 q z L := zR_fld hR (by rw [hm1, mset_ne _ _ _ (by decide)]) (by rw [hm1, mset_ne _ _ _ (by decide)]) (by rw [hm1, mset_ne _ _ _ (by decide)]) (by rw [hm1, mset_ne2 _ _ (by decide)]) (by rw [hm1, mset_ne2 _ _ (by decide)])
    have hth : m1 0 0 = 1 := by rw [hm1, mset_at]
    refine z_if_ne_f (tgt := 56) E dX6_on_51 (by decide) (by decide) ?_
    refine z_iconst (v := 0) E dX6_on_54 (by decide) ?_
    exact z_iretM E hr hlocks (m1) rfl (Or.inl ⟨"java/lang/IndexOutOfBoundsException", cm, (if_pos hL), hth, q, z, zR_mono (by omega) hR0⟩) (Nat.le_of_ble_eq_true rfl) (Nat.le_of_ble_eq_true rfl) dX6_on_55
  · skip
    rw [fIn_L1 hL]
    obtain ⟨k, hk, rfl⟩ := zx4 hL
    have ek : (nI k).toNatClampNeg = k := nI_clamp (by omega)
    refine z_if_ne_t (tgt := 12) E dX6_on_5 (by decide) (by decide) ?_
    obtain ⟨p0, hpp0, hm0⟩ := hR.1.1 k hk |>.2
    rw [show 4 * 0 + k = k by omega] at hpp0 hm0
    refine z_iload_n E dX6_on_12 rfl 2 rfl ?_
    refine z_bipush (v := 20) E dX6_on_13 (by decide) ?_
    refine z_sipush (v := 150) E dX6_on_15 (by decide) ?_
    refine z_callSi E hZ (k_in l D am cI cR cS cL dg mem b 20 150) gX6_on_X6_in (n := 3) rfl rfl rfl (by decide +kernel) rfl ⟨Nat.le_of_ble_eq_true rfl, Nat.le_of_ble_eq_true rfl⟩ (As := [.int b, .int 20, .int 150]) (rest := [.ref (am 0)]) rfl (Nat.le_of_ble_eq_true rfl) ⟨Nat.le_of_ble_eq_true rfl, Nat.le_of_ble_eq_true rfl⟩ dX6_on_18 (fun r u hp => ?_)
    rw [hp.1, hp.2]
    by_cases hb : b < 20 ∨ 150 < b
    · skip
      rw [fIn_0 hb]
      refine z_if_ne_f (tgt := 28) E dX6_on_21 (by decide) (by decide) ?_
      refine z_iconst (v := 2) E dX6_on_24 (by decide) ?_
      refine z_goto (tgt := 48) E dX6_on_25 (by decide) ?_
      refine z_callVi E hZ (k_holds l D am cI cR cS cL dg mem 2) gX6_on_X6_holds (n := 1) rfl rfl rfl (by decide +kernel) rfl ⟨(Nat.le_of_ble_eq_true rfl), (Nat.le_of_ble_eq_true rfl)⟩ (C := RX6) rfl 0 mw_obj (As := [.int 2]) (rest := []) rfl (Nat.le_of_ble_eq_true rfl) ⟨(Nat.le_of_ble_eq_true rfl), (Nat.le_of_ble_eq_true rfl)⟩ dX6_on_48 (fun r m2 hp => ?_)
      have hm2 := hp.2
      rw [hp.1, show (if (2 : Int32) = 0 then (1 : Int32) else 0) = 0 by decide]
      have hR0 : zR B cm m2 q z L := zR_fld hR (by rw [hm2, mset_ne _ _ _ (by decide)]) (by rw [hm2, mset_ne _ _ _ (by decide)]) (by rw [hm2, mset_ne _ _ _ (by decide)]) (by rw [hm2, mset_ne2 _ _ (by decide)]) (by rw [hm2, mset_ne2 _ _ (by decide)])
      have hth : m2 0 0 = 2 := by rw [hm2, mset_at]
      refine z_if_ne_f (tgt := 56) E dX6_on_51 (by decide) (by decide) ?_
      refine z_iconst (v := 0) E dX6_on_54 (by decide) ?_
      exact z_iretM E hr hlocks (m2) rfl (Or.inl ⟨"java/lang/IllegalArgumentException", cm, ((if_neg hL).trans (if_pos hb)), hth, q, z, zR_mono (by omega) hR0⟩) (Nat.le_of_ble_eq_true rfl) (Nat.le_of_ble_eq_true rfl) dX6_on_55
    · skip
      rw [fIn_1 hb]
      refine z_if_ne_t (tgt := 28) E dX6_on_21 (by decide) (by decide) ?_
      refine z_aload_n E dX6_on_28 rfl 0 rfl ?_
      refine z_get E 0 mw_obj (C := RX6) (T := TX6) (N := 16) rfl (fun _ h => List.mem_cons_of_mem _ (List.mem_append_right _ h)) 1 (by decide) (List.mem_of_getElem? (i := 1) (by decide +kernel)) rfl (v := .ref (am 1)) rfl dX6_on_29 ?_
      refine z_iload_n E dX6_on_32 rfl 1 rfl ?_
      refine z_bipush (v := 6) E dX6_on_33 (by decide) ?_
      refine z_callSi E hZ (k_of l D am cI cR cS cL dg mem (nI k) 6) gX6_on_X6_of (n := 2) rfl rfl rfl (by decide +kernel) rfl ⟨Nat.le_of_ble_eq_true rfl, Nat.le_of_ble_eq_true rfl⟩ (As := [.int (nI k), .int 6]) (rest := [.ref (am 1), .ref (am 0)]) rfl (Nat.le_of_ble_eq_true rfl) ⟨Nat.le_of_ble_eq_true rfl, Nat.le_of_ble_eq_true rfl⟩ dX6_on_35 (fun r u hp => ?_)
      rw [hp.1, hp.2]
      rw [zof k (y := 6) (w := 6) rfl]
      refine z_iald E 1 0 mw_s rfl (vp_in_nI (by omega) (by decide)) (v := nI p0) ((congrArg (mem 1) (nI_clamp (by omega))).trans hm0.2.2.2.2.2.2.1) dX6_on_38 ?_
      refine z_iconst (v := 3) E dX6_on_39 (by decide) ?_
      refine z_icmp_ne (tgt := 47) E dX6_on_40 (by decide) (fun c40 => ?_) (fun c40 => ?_)
      · skip
        have hF : fFull (rv cm k) = 0 := Decidable.not_not.mp (fun q => c40 ((fFull_3 hpp0).mpr q))
        refine z_iconst (v := 0) E dX6_on_47 (by decide) ?_
        refine z_callVi E hZ (k_holds l D am cI cR cS cL dg mem 0) gX6_on_X6_holds (n := 1) rfl rfl rfl (by decide +kernel) rfl ⟨(Nat.le_of_ble_eq_true rfl), (Nat.le_of_ble_eq_true rfl)⟩ (C := RX6) rfl 0 mw_obj (As := [.int 0]) (rest := []) rfl (Nat.le_of_ble_eq_true rfl) ⟨(Nat.le_of_ble_eq_true rfl), (Nat.le_of_ble_eq_true rfl)⟩ dX6_on_48 (fun r m3 hp => ?_)
        have hm3 := hp.2
        rw [hp.1, show (if (0 : Int32) = 0 then (1 : Int32) else 0) = 1 by decide]
        have hR0 : zR B cm m3 q z L := zR_fld hR (by rw [hm3, mset_ne _ _ _ (by decide)]) (by rw [hm3, mset_ne _ _ _ (by decide)]) (by rw [hm3, mset_ne _ _ _ (by decide)]) (by rw [hm3, mset_ne2 _ _ (by decide)]) (by rw [hm3, mset_ne2 _ _ (by decide)])
        have hth : m3 0 0 = 0 := by rw [hm3, mset_at]
        refine z_if_ne_t (tgt := 56) E dX6_on_51 (by decide) (by decide) ?_
        refine z_aload_n E dX6_on_56 rfl 0 rfl ?_
        refine z_callVv E hZ (k_msave l D am cI cR cS cL dg m3 hR0.2.1.2.1 hR0.2.1.2.2.2.2.1) gX6_on_X6_save (n := 0) rfl rfl rfl (by decide +kernel) rfl ⟨(Nat.le_of_ble_eq_true rfl), (Nat.le_of_ble_eq_true rfl)⟩ (C := RX6) rfl 0 mw_obj (As := []) (rest := []) rfl (Nat.le_of_ble_eq_true rfl) ⟨(Nat.le_of_ble_eq_true rfl), (Nat.le_of_ble_eq_true rfl)⟩ dX6_on_57 (fun m4 hp => ?_)
        have hR1 := zR_save hR0 hp.1 hp.2.2.2 hp.2.1 hp.2.2.1
        have th1 : m4 0 0 = 0 := by rw [hp.2.2.1, pk_un (by decide)]; exact hth
        obtain ⟨hok1, hS1⟩ := zSite_0 hR1.1
        refine z_aload_n E dX6_on_60 rfl 0 rfl ?_
        refine z_iload_n E dX6_on_61 rfl 1 rfl ?_
        refine z_iload_n E dX6_on_62 rfl 2 rfl ?_
        obtain ⟨w, hw2, rfl⟩ : ∃ w, w ≤ 150 ∧ b = nI w := nI_of2 (by decide) (fun a => hb (Or.inl (Int32.lt_of_lt_of_le a (by decide)))) (Int32.not_lt.mp (fun a => hb (Or.inr a)))
        have hw1 : 20 ≤ w := Nat.le_of_not_lt (fun a => hb (Or.inl ((nI_ltI (a := w) (b := 20) (by omega) (by omega)).mpr a)))
        have hp1 : rPp (rv (sSave cm q z) k) p0 := by rw [rv_save hR.2.1.1 hk]; exact hpp0
        have h3 := fFull_lt hpp0.2.1 hpp0.1 hF
        refine z_callVi E hZ (k_comes l D am cI cR cS cL dg m4 hok1 hS1 hk hp1 h3 hw1 hw2) gX6_on_X6_comes (n := 2) rfl rfl rfl (by decide +kernel) rfl ⟨(Nat.le_of_ble_eq_true rfl), (Nat.le_of_ble_eq_true rfl)⟩ (C := RX6) rfl 0 mw_obj (As := [.int (nI k), .int (nI w)]) (rest := []) rfl (Nat.le_of_ble_eq_true rfl) ⟨(Nat.le_of_ble_eq_true rfl), (Nat.le_of_ble_eq_true rfl)⟩ dX6_on_63 (fun r m5 hp => ?_)
        rw [hp.1]
        have hok3 := zOK_add hok1 hk hp1 h3 hw1 hw2
        have hT := zR_tail hk hR1 (fun i hi => zOnly_add k (sSave cm q z) (nI w) i (by omega) (by omega) (by omega)) hok3 hp.2.2 (zFr.refl _) hp.2.1
        have hth2 : m5 0 0 = 0 := by rw [hp.2.1.2.2 0 (by omega)]; exact th1
        exact z_iretM E hr hlocks (m5) rfl (Or.inr ⟨_, _, ((if_neg hL).trans ((if_neg hb).trans (by rw [ek]; exact if_pos hF))), hth2, rfl, _, _, hT⟩) (Nat.le_of_ble_eq_true rfl) (Nat.le_of_ble_eq_true rfl) dX6_on_66
      · skip
        have hF : ¬ fFull (rv cm k) = 0 := (fFull_3 hpp0).mp c40
        refine z_iconst (v := 3) E dX6_on_43 (by decide) ?_
        refine z_goto (tgt := 48) E dX6_on_44 (by decide) ?_
        refine z_callVi E hZ (k_holds l D am cI cR cS cL dg mem 3) gX6_on_X6_holds (n := 1) rfl rfl rfl (by decide +kernel) rfl ⟨(Nat.le_of_ble_eq_true rfl), (Nat.le_of_ble_eq_true rfl)⟩ (C := RX6) rfl 0 mw_obj (As := [.int 3]) (rest := []) rfl (Nat.le_of_ble_eq_true rfl) ⟨(Nat.le_of_ble_eq_true rfl), (Nat.le_of_ble_eq_true rfl)⟩ dX6_on_48 (fun r m6 hp => ?_)
        have hm6 := hp.2
        rw [hp.1, show (if (3 : Int32) = 0 then (1 : Int32) else 0) = 0 by decide]
        have hR0 : zR B cm m6 q z L := zR_fld hR (by rw [hm6, mset_ne _ _ _ (by decide)]) (by rw [hm6, mset_ne _ _ _ (by decide)]) (by rw [hm6, mset_ne _ _ _ (by decide)]) (by rw [hm6, mset_ne2 _ _ (by decide)]) (by rw [hm6, mset_ne2 _ _ (by decide)])
        have hth : m6 0 0 = 3 := by rw [hm6, mset_at]
        refine z_if_ne_f (tgt := 56) E dX6_on_51 (by decide) (by decide) ?_
        refine z_iconst (v := 0) E dX6_on_54 (by decide) ?_
        exact z_iretM E hr hlocks (m6) rfl (Or.inl ⟨"java/lang/IllegalStateException", cm, ((if_neg hL).trans ((if_neg hb).trans (by rw [ek]; exact if_neg hF))), hth, q, z, zR_mono (by omega) hR0⟩) (Nat.le_of_ble_eq_true rfl) (Nat.le_of_ble_eq_true rfl) dX6_on_55
set_option maxHeartbeats 1000000 in
set_option maxRecDepth 100000 in
theorem k_moff (l : Launch) (D : va_G) (am : Nat → Nat) (cI cR cS cL : ClassId) (dg : Int64) (mem : zM) {B : Nat} {cm : zM} {q z L : Nat} (hR : zR B cm mem q z L) (x b : Int32) : zMi l yX6_off wsX6_off ({ frames := 6, cells := 0, slots := 0, locals := 141 }) D (cK cI cR cS cL) [.ref (am 0), .int x, .int b] (mw am cI dg mem) (fun r u => mAns cdL (fun c' => ∃ q' z', zR (B + 180) c' u q' z' L) (sOff cm q z x b) r (u 0 0)) (mw am cI dg) 0 0 := by
  refine zMiM.of (cc := cX6_off) (maxL := 3) (ret := (some .int)) (by decide +kernel) rfl (lv0 := [(0, .ref (am 0)), (1, .int x), (2, .int b)]) (Nat.le_of_ble_eq_true rfl) rfl ?_
  intro p e s m args below meth c E hZ hr hlocks hnm
  refine z_aload_n E dX6_off_0 rfl 0 rfl ?_
  refine z_aload_n E dX6_off_1 rfl 0 rfl ?_
  refine z_iload_n E dX6_off_2 rfl 1 rfl ?_
  refine z_iload_n E dX6_off_3 rfl 2 rfl ?_
  refine z_callVi E hZ (k_isPerson l D am cI cR cS cL dg mem hR x b) gX6_off_X6_isPerson (n := 2) rfl rfl rfl (by decide +kernel) rfl ⟨(Nat.le_of_ble_eq_true rfl), (Nat.le_of_ble_eq_true rfl)⟩ (C := RX6) rfl 0 mw_obj (As := [.int x, .int b]) (rest := [.ref (am 0)]) rfl (Nat.le_of_ble_eq_true rfl) ⟨(Nat.le_of_ble_eq_true rfl), (Nat.le_of_ble_eq_true rfl)⟩ dX6_off_4 (fun r u hp => ?_)
  rw [hp.1, hp.2]
  by_cases hL : x < 0 ∨ 4 ≤ x
  · skip
    rw [show fIsP cm x b = 0 from if_pos hL]
    refine z_if_eq_t (tgt := 14) E dX6_off_7 (by decide) (by decide) ?_
    refine z_iconst (v := 1) E dX6_off_14 (by decide) ?_
    refine z_callVi E hZ (k_holds l D am cI cR cS cL dg mem 1) gX6_off_X6_holds (n := 1) rfl rfl rfl (by decide +kernel) rfl ⟨(Nat.le_of_ble_eq_true rfl), (Nat.le_of_ble_eq_true rfl)⟩ (C := RX6) rfl 0 mw_obj (As := [.int 1]) (rest := []) rfl (Nat.le_of_ble_eq_true rfl) ⟨(Nat.le_of_ble_eq_true rfl), (Nat.le_of_ble_eq_true rfl)⟩ dX6_off_15 (fun r m1 hp => ?_)
    have hm1 := hp.2
    rw [hp.1, show (if (1 : Int32) = 0 then (1 : Int32) else 0) = 0 by decide]
    have hR0 : zR B cm m1 q z L := zR_fld hR (by rw [hm1, mset_ne _ _ _ (by decide)]) (by rw [hm1, mset_ne _ _ _ (by decide)]) (by rw [hm1, mset_ne _ _ _ (by decide)]) (by rw [hm1, mset_ne2 _ _ (by decide)]) (by rw [hm1, mset_ne2 _ _ (by decide)])
    have hth : m1 0 0 = 1 := by rw [hm1, mset_at]
    refine z_if_ne_f (tgt := 23) E dX6_off_18 (by decide) (by decide) ?_
    refine z_iconst (v := 0) E dX6_off_21 (by decide) ?_
    exact z_iretM E hr hlocks (m1) rfl (Or.inl ⟨"java/lang/IndexOutOfBoundsException", cm, (if_pos hL), hth, q, z, zR_mono (by omega) hR0⟩) (Nat.le_of_ble_eq_true rfl) (Nat.le_of_ble_eq_true rfl) dX6_off_22
  · skip
    obtain ⟨k, hk, rfl⟩ := zx4 hL
    have ek : (nI k).toNatClampNeg = k := nI_clamp (by omega)
    by_cases hPe : fBears (rv cm k) b = 0
    · skip
      rw [show fIsP cm (nI k) b = 0 from (if_neg hL).trans (by rw [ek]; exact hPe)]
      refine z_if_eq_t (tgt := 14) E dX6_off_7 (by decide) (by decide) ?_
      refine z_iconst (v := 1) E dX6_off_14 (by decide) ?_
      refine z_callVi E hZ (k_holds l D am cI cR cS cL dg mem 1) gX6_off_X6_holds (n := 1) rfl rfl rfl (by decide +kernel) rfl ⟨(Nat.le_of_ble_eq_true rfl), (Nat.le_of_ble_eq_true rfl)⟩ (C := RX6) rfl 0 mw_obj (As := [.int 1]) (rest := []) rfl (Nat.le_of_ble_eq_true rfl) ⟨(Nat.le_of_ble_eq_true rfl), (Nat.le_of_ble_eq_true rfl)⟩ dX6_off_15 (fun r m2 hp => ?_)
      have hm2 := hp.2
      rw [hp.1, show (if (1 : Int32) = 0 then (1 : Int32) else 0) = 0 by decide]
      have hR0 : zR B cm m2 q z L := zR_fld hR (by rw [hm2, mset_ne _ _ _ (by decide)]) (by rw [hm2, mset_ne _ _ _ (by decide)]) (by rw [hm2, mset_ne _ _ _ (by decide)]) (by rw [hm2, mset_ne2 _ _ (by decide)]) (by rw [hm2, mset_ne2 _ _ (by decide)])
      have hth : m2 0 0 = 1 := by rw [hm2, mset_at]
      refine z_if_ne_f (tgt := 23) E dX6_off_18 (by decide) (by decide) ?_
      refine z_iconst (v := 0) E dX6_off_21 (by decide) ?_
      exact z_iretM E hr hlocks (m2) rfl (Or.inl ⟨"java/lang/IndexOutOfBoundsException", cm, ((if_neg hL).trans (by rw [ek]; exact if_pos hPe)), hth, q, z, zR_mono (by omega) hR0⟩) (Nat.le_of_ble_eq_true rfl) (Nat.le_of_ble_eq_true rfl) dX6_off_22
    · skip
      rw [show fIsP cm (nI k) b = 1 from (if_neg hL).trans (by rw [ek]; exact (fBears_01 _ _).resolve_left hPe)]
      obtain ⟨t, ht3, rfl⟩ := fBears_nI hPe
      obtain ⟨p0, hpp0, hm0⟩ := hR.1.1 k hk |>.2
      rw [show 4 * 0 + k = k by omega] at hpp0 hm0
      have htp := fBears_lt hpp0 ht3 hPe
      have et : (nI t).toNatClampNeg = t := nI_clamp (by omega)
      refine z_if_eq_f (tgt := 14) E dX6_off_7 (by decide) (by decide) ?_
      refine z_iconst (v := 0) E dX6_off_10 (by decide) ?_
      refine z_goto (tgt := 15) E dX6_off_11 (by decide) ?_
      refine z_callVi E hZ (k_holds l D am cI cR cS cL dg mem 0) gX6_off_X6_holds (n := 1) rfl rfl rfl (by decide +kernel) rfl ⟨(Nat.le_of_ble_eq_true rfl), (Nat.le_of_ble_eq_true rfl)⟩ (C := RX6) rfl 0 mw_obj (As := [.int 0]) (rest := []) rfl (Nat.le_of_ble_eq_true rfl) ⟨(Nat.le_of_ble_eq_true rfl), (Nat.le_of_ble_eq_true rfl)⟩ dX6_off_15 (fun r m3 hp => ?_)
      have hm3 := hp.2
      rw [hp.1, show (if (0 : Int32) = 0 then (1 : Int32) else 0) = 1 by decide]
      have hR0 : zR B cm m3 q z L := zR_fld hR (by rw [hm3, mset_ne _ _ _ (by decide)]) (by rw [hm3, mset_ne _ _ _ (by decide)]) (by rw [hm3, mset_ne _ _ _ (by decide)]) (by rw [hm3, mset_ne2 _ _ (by decide)]) (by rw [hm3, mset_ne2 _ _ (by decide)])
      have hth : m3 0 0 = 0 := by rw [hm3, mset_at]
      refine z_if_ne_t (tgt := 23) E dX6_off_18 (by decide) (by decide) ?_
      refine z_aload_n E dX6_off_23 rfl 0 rfl ?_
      refine z_callVv E hZ (k_msave l D am cI cR cS cL dg m3 hR0.2.1.2.1 hR0.2.1.2.2.2.2.1) gX6_off_X6_save (n := 0) rfl rfl rfl (by decide +kernel) rfl ⟨(Nat.le_of_ble_eq_true rfl), (Nat.le_of_ble_eq_true rfl)⟩ (C := RX6) rfl 0 mw_obj (As := []) (rest := []) rfl (Nat.le_of_ble_eq_true rfl) ⟨(Nat.le_of_ble_eq_true rfl), (Nat.le_of_ble_eq_true rfl)⟩ dX6_off_24 (fun m4 hp => ?_)
      have hR1 := zR_save hR0 hp.1 hp.2.2.2 hp.2.1 hp.2.2.1
      have th1 : m4 0 0 = 0 := by rw [hp.2.2.1, pk_un (by decide)]; exact hth
      obtain ⟨hok1, hS1⟩ := zSite_0 hR1.1
      refine z_aload_n E dX6_off_27 rfl 0 rfl ?_
      refine z_iload_n E dX6_off_28 rfl 1 rfl ?_
      refine z_iload_n E dX6_off_29 rfl 2 rfl ?_
      have hp1 : rPp (rv (sSave cm q z) k) p0 := by rw [rv_save hR.2.1.1 hk]; exact hpp0
      refine z_callVi E hZ (k_goes l D am cI cR cS cL dg m4 hok1 hS1 hk hp1 htp) gX6_off_X6_goes (n := 2) rfl rfl rfl (by decide +kernel) rfl ⟨(Nat.le_of_ble_eq_true rfl), (Nat.le_of_ble_eq_true rfl)⟩ (C := RX6) rfl 0 mw_obj (As := [.int (nI k), .int (nI t)]) (rest := []) rfl (Nat.le_of_ble_eq_true rfl) ⟨(Nat.le_of_ble_eq_true rfl), (Nat.le_of_ble_eq_true rfl)⟩ dX6_off_30 (fun r m5 hp => ?_)
      rw [hp.1]
      have hok3 := zOK_rm hok1 hk hp1 htp
      have hT := zR_tail hk hR1 (fun i hi => zOnly_remove k (sSave cm q z) (nI t) i (by omega) (by omega) (by omega)) hok3 hp.2.2 (zFr.refl _) hp.2.1
      have hth2 : m5 0 0 = 0 := by rw [hp.2.1.2.2 0 (by omega)]; exact th1
      exact z_iretM E hr hlocks (m5) rfl (Or.inr ⟨_, _, (if_neg hL).trans (by rw [ek]; exact if_neg hPe), hth2, rfl, _, _, hT⟩) (Nat.le_of_ble_eq_true rfl) (Nat.le_of_ble_eq_true rfl) dX6_off_33
theorem wkGo_F {j q p : Nat} {way st : Int32} (hj : j < 4) (hq : q < p) : ∀ (d F : Nat) (m : zM), (∃ R, rPp R p ∧ rv m j 7 = R 7) → m 87 1 = nI F → ∃ F', F' ≤ F + 3 ∧ (wkGo 0 j q way st d m).2 87 1 = nI F'
  | 0, F, m, _, hF => ⟨F, by omega, by rw [wkGo]; exact hF⟩
  | d + 1, F, m, ⟨R, hp, h7⟩, hF => by
    have hp3 := hp.1
    have e87 : wkM 0 j q way m 87 1 = nI F := by
      unfold wkM
      rw [show 87 + 0 = 87 from rfl, mset_ne2 _ _ (by decide), mset_ne _ _ _ (by omega)]
      exact hF
    have e7 : wkM 0 j q way m (3 * j) 7 = m (3 * j) 7 := by
      unfold wkM
      rw [mset_ne _ _ _ (by omega), mset_ne _ _ _ (by omega)]
    rw [wkGo_succ]
    split
    · refine ⟨F + p, by omega, ?_⟩
      show sFall _ 0 j 87 1 = _
      rw [sFall_site (by omega), pk_us, e87, e7, show m (3 * j) 7 = nI p from h7.trans hp.2.1, nI_add]
    · exact wkGo_F hj hq d F _ ⟨R, hp, e7.trans h7⟩ e87
theorem sWalk_F {mem : zM} {j q p a b F : Nat} (hj : j < 4) (hp : rPp (rv mem j) p) (hq : q < p) (hF : mem 87 1 = nI F) : ∃ F', F' ≤ F + 3 ∧ (sWalk mem j q b a).2 87 1 = nI F' := wkGo_F hj hq _ F mem ⟨_, hp, rfl⟩ hF
set_option maxHeartbeats 1000000 in
set_option maxRecDepth 100000 in
theorem k_mclimb (l : Launch) (D : va_G) (am : Nat → Nat) (cI cR cS cL : ClassId) (dg : Int64) (mem : zM) {B : Nat} {cm : zM} {q z L : Nat} (hR : zR B cm mem q z L) (x b g : Int32) : zMi l yX6_climb wsX6_climb ({ frames := 6, cells := 0, slots := 0, locals := 144 }) D (cK cI cR cS cL) [.ref (am 0), .int x, .int b, .int g] (mw am cI dg mem) (fun r u => mAns cdL (fun c' => ∃ q' z', zR (B + 180) c' u q' z' L) (sClimb cm q z x b g) r (u 0 0)) (mw am cI dg) 0 0 := by
  refine zMiM.of (cc := cX6_climb) (maxL := 4) (ret := (some .int)) (by decide +kernel) rfl (lv0 := [(0, .ref (am 0)), (1, .int x), (2, .int b), (3, .int g)]) (Nat.le_of_ble_eq_true rfl) rfl ?_
  intro p e s m args below meth c E hZ hr hlocks hnm
  refine z_aload_n E dX6_climb_0 rfl 0 rfl ?_
  refine z_aload_n E dX6_climb_1 rfl 0 rfl ?_
  refine z_iload_n E dX6_climb_2 rfl 1 rfl ?_
  refine z_iload_n E dX6_climb_3 rfl 2 rfl ?_
  refine z_callVi E hZ (k_isPerson l D am cI cR cS cL dg mem hR x b) gX6_climb_X6_isPerson (n := 2) rfl rfl rfl (by decide +kernel) rfl ⟨(Nat.le_of_ble_eq_true rfl), (Nat.le_of_ble_eq_true rfl)⟩ (C := RX6) rfl 0 mw_obj (As := [.int x, .int b]) (rest := [.ref (am 0)]) rfl (Nat.le_of_ble_eq_true rfl) ⟨(Nat.le_of_ble_eq_true rfl), (Nat.le_of_ble_eq_true rfl)⟩ dX6_climb_4 (fun r u hp => ?_)
  rw [hp.1, hp.2]
  by_cases hL : x < 0 ∨ 4 ≤ x
  · skip
    rw [show fIsP cm x b = 0 from if_pos hL]
    refine z_if_ne_f (tgt := 14) E dX6_climb_7 (by decide) (by decide) ?_
    refine z_iconst (v := 1) E dX6_climb_10 (by decide) ?_
    refine z_goto (tgt := 29) E dX6_climb_11 (by decide) ?_
    refine z_callVi E hZ (k_holds l D am cI cR cS cL dg mem 1) gX6_climb_X6_holds (n := 1) rfl rfl rfl (by decide +kernel) rfl ⟨(Nat.le_of_ble_eq_true rfl), (Nat.le_of_ble_eq_true rfl)⟩ (C := RX6) rfl 0 mw_obj (As := [.int 1]) (rest := []) rfl (Nat.le_of_ble_eq_true rfl) ⟨(Nat.le_of_ble_eq_true rfl), (Nat.le_of_ble_eq_true rfl)⟩ dX6_climb_29 (fun r m1 hp => ?_)
    have hm1 := hp.2
    rw [hp.1, show (if (1 : Int32) = 0 then (1 : Int32) else 0) = 0 by decide]
    have hR0 : zR B cm m1 q z L := zR_fld hR (by rw [hm1, mset_ne _ _ _ (by decide)]) (by rw [hm1, mset_ne _ _ _ (by decide)]) (by rw [hm1, mset_ne _ _ _ (by decide)]) (by rw [hm1, mset_ne2 _ _ (by decide)]) (by rw [hm1, mset_ne2 _ _ (by decide)])
    have hth : m1 0 0 = 1 := by rw [hm1, mset_at]
    refine z_if_ne_f (tgt := 37) E dX6_climb_32 (by decide) (by decide) ?_
    refine z_iconst (v := 0) E dX6_climb_35 (by decide) ?_
    exact z_iretM E hr hlocks (m1) rfl (Or.inl ⟨"java/lang/IndexOutOfBoundsException", cm, (if_pos hL), hth, q, z, zR_mono (by omega) hR0⟩) (Nat.le_of_ble_eq_true rfl) (Nat.le_of_ble_eq_true rfl) dX6_climb_36
  · skip
    obtain ⟨k, hk, rfl⟩ := zx4 hL
    have ek : (nI k).toNatClampNeg = k := nI_clamp (by omega)
    by_cases hPe : fBears (rv cm k) b = 0
    · skip
      rw [show fIsP cm (nI k) b = 0 from (if_neg hL).trans (by rw [ek]; exact hPe)]
      refine z_if_ne_f (tgt := 14) E dX6_climb_7 (by decide) (by decide) ?_
      refine z_iconst (v := 1) E dX6_climb_10 (by decide) ?_
      refine z_goto (tgt := 29) E dX6_climb_11 (by decide) ?_
      refine z_callVi E hZ (k_holds l D am cI cR cS cL dg mem 1) gX6_climb_X6_holds (n := 1) rfl rfl rfl (by decide +kernel) rfl ⟨(Nat.le_of_ble_eq_true rfl), (Nat.le_of_ble_eq_true rfl)⟩ (C := RX6) rfl 0 mw_obj (As := [.int 1]) (rest := []) rfl (Nat.le_of_ble_eq_true rfl) ⟨(Nat.le_of_ble_eq_true rfl), (Nat.le_of_ble_eq_true rfl)⟩ dX6_climb_29 (fun r m2 hp => ?_)
      have hm2 := hp.2
      rw [hp.1, show (if (1 : Int32) = 0 then (1 : Int32) else 0) = 0 by decide]
      have hR0 : zR B cm m2 q z L := zR_fld hR (by rw [hm2, mset_ne _ _ _ (by decide)]) (by rw [hm2, mset_ne _ _ _ (by decide)]) (by rw [hm2, mset_ne _ _ _ (by decide)]) (by rw [hm2, mset_ne2 _ _ (by decide)]) (by rw [hm2, mset_ne2 _ _ (by decide)])
      have hth : m2 0 0 = 1 := by rw [hm2, mset_at]
      refine z_if_ne_f (tgt := 37) E dX6_climb_32 (by decide) (by decide) ?_
      refine z_iconst (v := 0) E dX6_climb_35 (by decide) ?_
      exact z_iretM E hr hlocks (m2) rfl (Or.inl ⟨"java/lang/IndexOutOfBoundsException", cm, ((if_neg hL).trans (by rw [ek]; exact if_pos hPe)), hth, q, z, zR_mono (by omega) hR0⟩) (Nat.le_of_ble_eq_true rfl) (Nat.le_of_ble_eq_true rfl) dX6_climb_36
    · skip
      rw [show fIsP cm (nI k) b = 1 from (if_neg hL).trans (by rw [ek]; exact (fBears_01 _ _).resolve_left hPe)]
      obtain ⟨t, ht3, rfl⟩ := fBears_nI hPe
      obtain ⟨p0, hpp0, hm0⟩ := hR.1.1 k hk |>.2
      rw [show 4 * 0 + k = k by omega] at hpp0 hm0
      have htp := fBears_lt hpp0 ht3 hPe
      have et : (nI t).toNatClampNeg = t := nI_clamp (by omega)
      refine z_if_ne_t (tgt := 14) E dX6_climb_7 (by decide) (by decide) ?_
      refine z_iload_n E dX6_climb_14 rfl 3 rfl ?_
      refine z_iconst (v := 0) E dX6_climb_15 (by decide) ?_
      refine z_bipush (v := 10) E dX6_climb_16 (by decide) ?_
      refine z_callSi E hZ (k_in l D am cI cR cS cL dg mem g 0 10) gX6_climb_X6_in (n := 3) rfl rfl rfl (by decide +kernel) rfl ⟨Nat.le_of_ble_eq_true rfl, Nat.le_of_ble_eq_true rfl⟩ (As := [.int g, .int 0, .int 10]) (rest := [.ref (am 0)]) rfl (Nat.le_of_ble_eq_true rfl) ⟨Nat.le_of_ble_eq_true rfl, Nat.le_of_ble_eq_true rfl⟩ dX6_climb_18 (fun r u hp => ?_)
      rw [hp.1, hp.2]
      by_cases hg : g < 0 ∨ 10 < g
      · skip
        rw [fIn_0 hg]
        refine z_if_eq_t (tgt := 28) E dX6_climb_21 (by decide) (by decide) ?_
        refine z_iconst (v := 2) E dX6_climb_28 (by decide) ?_
        refine z_callVi E hZ (k_holds l D am cI cR cS cL dg mem 2) gX6_climb_X6_holds (n := 1) rfl rfl rfl (by decide +kernel) rfl ⟨(Nat.le_of_ble_eq_true rfl), (Nat.le_of_ble_eq_true rfl)⟩ (C := RX6) rfl 0 mw_obj (As := [.int 2]) (rest := []) rfl (Nat.le_of_ble_eq_true rfl) ⟨(Nat.le_of_ble_eq_true rfl), (Nat.le_of_ble_eq_true rfl)⟩ dX6_climb_29 (fun r m3 hp => ?_)
        have hm3 := hp.2
        rw [hp.1, show (if (2 : Int32) = 0 then (1 : Int32) else 0) = 0 by decide]
        have hR0 : zR B cm m3 q z L := zR_fld hR (by rw [hm3, mset_ne _ _ _ (by decide)]) (by rw [hm3, mset_ne _ _ _ (by decide)]) (by rw [hm3, mset_ne _ _ _ (by decide)]) (by rw [hm3, mset_ne2 _ _ (by decide)]) (by rw [hm3, mset_ne2 _ _ (by decide)])
        have hth : m3 0 0 = 2 := by rw [hm3, mset_at]
        refine z_if_ne_f (tgt := 37) E dX6_climb_32 (by decide) (by decide) ?_
        refine z_iconst (v := 0) E dX6_climb_35 (by decide) ?_
        exact z_iretM E hr hlocks (m3) rfl (Or.inl ⟨"java/lang/IllegalArgumentException", cm, ((if_neg hL).trans (by rw [ek]; exact (if_neg hPe).trans (if_pos hg))), hth, q, z, zR_mono (by omega) hR0⟩) (Nat.le_of_ble_eq_true rfl) (Nat.le_of_ble_eq_true rfl) dX6_climb_36
      · skip
        rw [fIn_1 hg]
        refine z_if_eq_f (tgt := 28) E dX6_climb_21 (by decide) (by decide) ?_
        refine z_iconst (v := 0) E dX6_climb_24 (by decide) ?_
        refine z_goto (tgt := 29) E dX6_climb_25 (by decide) ?_
        refine z_callVi E hZ (k_holds l D am cI cR cS cL dg mem 0) gX6_climb_X6_holds (n := 1) rfl rfl rfl (by decide +kernel) rfl ⟨(Nat.le_of_ble_eq_true rfl), (Nat.le_of_ble_eq_true rfl)⟩ (C := RX6) rfl 0 mw_obj (As := [.int 0]) (rest := []) rfl (Nat.le_of_ble_eq_true rfl) ⟨(Nat.le_of_ble_eq_true rfl), (Nat.le_of_ble_eq_true rfl)⟩ dX6_climb_29 (fun r m4 hp => ?_)
        have hm4 := hp.2
        rw [hp.1, show (if (0 : Int32) = 0 then (1 : Int32) else 0) = 1 by decide]
        have hR0 : zR B cm m4 q z L := zR_fld hR (by rw [hm4, mset_ne _ _ _ (by decide)]) (by rw [hm4, mset_ne _ _ _ (by decide)]) (by rw [hm4, mset_ne _ _ _ (by decide)]) (by rw [hm4, mset_ne2 _ _ (by decide)]) (by rw [hm4, mset_ne2 _ _ (by decide)])
        have hth : m4 0 0 = 0 := by rw [hm4, mset_at]
        refine z_if_ne_t (tgt := 37) E dX6_climb_32 (by decide) (by decide) ?_
        refine z_aload_n E dX6_climb_37 rfl 0 rfl ?_
        refine z_callVv E hZ (k_msave l D am cI cR cS cL dg m4 hR0.2.1.2.1 hR0.2.1.2.2.2.2.1) gX6_climb_X6_save (n := 0) rfl rfl rfl (by decide +kernel) rfl ⟨(Nat.le_of_ble_eq_true rfl), (Nat.le_of_ble_eq_true rfl)⟩ (C := RX6) rfl 0 mw_obj (As := []) (rest := []) rfl (Nat.le_of_ble_eq_true rfl) ⟨(Nat.le_of_ble_eq_true rfl), (Nat.le_of_ble_eq_true rfl)⟩ dX6_climb_38 (fun m5 hp => ?_)
        have hR1 := zR_save hR0 hp.1 hp.2.2.2 hp.2.1 hp.2.2.1
        have th1 : m5 0 0 = 0 := by rw [hp.2.2.1, pk_un (by decide)]; exact hth
        obtain ⟨hok1, hS1⟩ := zSite_0 hR1.1
        refine z_aload_n E dX6_climb_41 rfl 0 rfl ?_
        refine z_iload_n E dX6_climb_42 rfl 1 rfl ?_
        refine z_iload_n E dX6_climb_43 rfl 2 rfl ?_
        refine z_iload_n E dX6_climb_44 rfl 3 rfl ?_
        obtain ⟨b2, hb2, rfl⟩ := zin_nI (n := 10) (by decide) hg
        have eb2 : (nI b2).toNatClampNeg = b2 := nI_clamp (by omega)
        have hp1 : rPp (rv (sSave cm q z) k) p0 := by rw [rv_save hR.2.1.1 hk]; exact hpp0
        obtain ⟨a, ha, hcur⟩ := (zSite_0 hR.1).1.hA k hk t ht3
        have hc1 : sSave cm q z (3 * k + 2) t = nI a := by rw [sSave_ne (Or.inl (by omega)) hR.2.1.1]; exact hcur
        have ea : (cm (3 * k + 2) t).toNatClampNeg = a := by rw [hcur, nI_clamp (by omega)]
        refine z_callVi E hZ (k_climbs l D am cI cR cS cL dg m5 hok1 hS1 hk hp1 htp ha hb2 hc1) gX6_climb_X6_climbs (n := 3) rfl rfl rfl (by decide +kernel) rfl ⟨(Nat.le_of_ble_eq_true rfl), (Nat.le_of_ble_eq_true rfl)⟩ (C := RX6) rfl 0 mw_obj (As := [.int (nI k), .int (nI t), .int (nI b2)]) (rest := []) rfl (Nat.le_of_ble_eq_true rfl) ⟨(Nat.le_of_ble_eq_true rfl), (Nat.le_of_ble_eq_true rfl)⟩ dX6_climb_45 (fun r m6 hp => ?_)
        rw [hp.1]
        obtain ⟨F, hFB, eF⟩ := hR1.1.2.1
        obtain ⟨F2, hF2, eF2⟩ := sWalk_F (mem := sSave cm q z) hk hp1 htp (b := b2) (a := a) eF
        have hT : zR (B + 180) (sWalk (sSave cm q z) k t b2 a).2 m6 (if q + 1 < 6 then q + 1 else 0) (if z < 6 then z + 1 else 6) L := zR_site (F := F2) (by omega) hR1 (fun i hi h87 => wkGo_ne h87 (by omega) (by omega) (by omega) _ _) (zOK_walk hok1 hk hp1 htp ha hb2 hc1) hp.2.2 eF2 (by omega) hp.2.1.1 hp.2.1.2.1 (hp.2.1.2.2 3 (by omega)) (hp.2.1.2.2 5 (by omega))
        have hth2 : m6 0 0 = 0 := by rw [hp.2.1.2.2 0 (by omega)]; exact th1
        exact z_iretM E hr hlocks (m6) rfl (Or.inr ⟨_, _, (if_neg hL).trans (by rw [ek, et, eb2, ea]; exact (if_neg hPe).trans (if_neg hg)), hth2, rfl, _, _, hT⟩) (Nat.le_of_ble_eq_true rfl) (Nat.le_of_ble_eq_true rfl) dX6_climb_48
