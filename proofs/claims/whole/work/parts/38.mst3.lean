/-! the reference: someone climbs -/
theorem zS_wkM {c : zM} {s s' : Nat → Int32} {k t p b : Nat} {way : Int32} (hk : k < 4) (h : zS c s) (hp : rPp (rv c k) p) (ht : t < p) (hb : b ≤ 10) (hv : c (3 * k + 2) t + way = nI b) (e : s' = upd (upd s (14 * k + 9 + 2 * t) (nI b)) 57 (c 87 2 + 1)) : zS (wkM 0 k t way c) s' := by
  have hp3 := hp.1
  obtain ⟨p', hpp, hm⟩ := h.1 k hk
  have ep := rPp_unique hp hpp
  subst ep
  have hrv := rv_wkM (m := c) (way := way) (show k < 29 by omega) (show t < 3 by omega)
  rw [hv] at hrv
  have c87 : wkM 0 k t way c 87 = upd (c 87) 2 (c 87 2 + 1) := by
    unfold wkM
    rw [show 87 + 0 = 87 from rfl, mset_self, mset_ne _ _ _ (by omega)]
  have out : ∀ j, j ≠ 14 * k + 9 + 2 * t → j ≠ 57 → s' j = s j := fun j a b => by rw [e, pk_un b, pk_un a]
  refine zS_rig (k := k) h (fun i hi ne => ?_) (fun j hj ne => out j (by omega) (by omega)) (by rw [hrv]; exact rPp_step hp ht hb) ?_ ?_ ?_
  · unfold wkM
    rw [rv_ne (by omega) (by omega) (by omega), rv_ne (by omega) (by omega) (by omega)]
  · rw [hrv]
    obtain ⟨q0, q1, q2, q3, q4, q5, q6, q7, qp⟩ := hm
    refine ⟨?_, ?_, ?_, ?_, ?_, ?_, ?_, ?_, fun i hi => ?_⟩
    · rw [out _ (by omega) (by omega), pk_un (by omega)]; exact q0
    · rw [out _ (by omega) (by omega), pk_un (by omega)]; exact q1
    · rw [out _ (by omega) (by omega), pk_un (by omega)]; exact q2
    · rw [out _ (by omega) (by omega), pk_un (by omega)]; exact q3
    · rw [out _ (by omega) (by omega), pk_un (by omega)]; exact q4
    · rw [out _ (by omega) (by omega), pk_un (by omega)]; exact q5
    · rw [out _ (by omega) (by omega)]; exact q6
    · rw [out _ (by omega) (by omega), pk_un (by omega)]; exact q7
    · rw [out _ (by omega) (by omega), pk_un (by omega)]
      refine ⟨(qp i hi).1, ?_⟩
      by_cases ei : i = t
      · subst ei
        rw [e, pk_un (by omega), pk_us, pk_us]
      · rw [out _ (by omega) (by omega), pk_un (by omega)]; exact (qp i hi).2
  · rw [out _ (by omega) (by omega), c87, pk_un (by decide)]; exact h.2.1
  · rw [e, pk_us, c87, pk_us]
theorem fFN_pp {R : Nat → Int32} {p : Nat} (hp : rPp R p) (h0 : 0 < p) : fFN R = if fStands R = 0 then 1 else 0 := by
  have := hp.1
  exact if_neg (by rw [hp.2.1]; exact nI_ne0 h0 (by omega))
set_option maxHeartbeats 1000000 in
set_option maxRecDepth 100000 in
theorem k_climbs (l : Launch) (D : va_G) (am : Nat → Nat) (cI cR cS cL : ClassId) (dg : Int64) (mem : zM) {cm : zM} (hok : zOK cm) (hS : zS cm (mem 1)) {k : Nat} (hk : k < 4) {p0 t : Nat} (hpp : rPp (rv cm k) p0) (ht : t < p0) {a b : Nat} (ha : a ≤ 10) (hb : b ≤ 10) (hcur0 : cm (3 * k + 2) t = nI a) : zMi l yX6_climbs wsX6_climbs ({ frames := 5, cells := 0, slots := 0, locals := 119 }) D (cK cI cR cS cL) [.ref (am 0), .int (nI k), .int (nI t), .int (nI b)] (mw am cI dg mem) (fun r u => r = (sWalk cm k t b a).1 ∧ zFr mem u ∧ zS (sWalk cm k t b a).2 (u 1)) (mw am cI dg) 0 0 := by
  refine zMiM.of (cc := cX6_climbs) (maxL := 6) (ret := (some .int)) (by decide +kernel) rfl (lv0 := [(0, .ref (am 0)), (1, .int (nI k)), (2, .int (nI t)), (3, .int (nI b))]) (Nat.le_of_ble_eq_true rfl) rfl ?_
  intro p e s m args below meth c E hZ hr hlocks hnm
  have ht3 : t < 3 := by { have := hpp.1; omega }
  refine z_iload_n E dX6_climbs_0 rfl 1 rfl ?_
  refine z_iload_n E dX6_climbs_1 rfl 2 rfl ?_
  refine z_iconst (v := 1) E dX6_climbs_2 (by decide) ?_
  refine z_callSi E hZ (k_ofP l D am cI cR cS cL dg mem (nI k) (nI t) 1) gX6_climbs_X6_ofPerson (n := 3) rfl rfl rfl (by decide +kernel) rfl ⟨Nat.le_of_ble_eq_true rfl, Nat.le_of_ble_eq_true rfl⟩ (As := [.int (nI k), .int (nI t), .int 1]) (rest := []) rfl (Nat.le_of_ble_eq_true rfl) ⟨Nat.le_of_ble_eq_true rfl, Nat.le_of_ble_eq_true rfl⟩ dX6_climbs_3 (fun r u hp => ?_)
  rw [hp.1, hp.2]
  rw [zofP k t (y := nI t) (z := 1) (w := 1) (N := 14 * k + 9 + 2 * t) rfl rfl (by omega)]
  refine z_istore (lv' := [(4, .int (nI (14 * k + 9 + 2 * t))), (0, .ref (am 0)), (1, .int (nI k)), (2, .int (nI t)), (3, .int (nI b))]) E dX6_climbs_6 (by decide) rfl ?_
  refine z_iconst (v := 0) E dX6_climbs_8 (by decide) ?_
  refine z_istore (lv' := [(5, .int 0), (4, .int (nI (14 * k + 9 + 2 * t))), (0, .ref (am 0)), (1, .int (nI k)), (2, .int (nI t)), (3, .int (nI b))]) E dX6_climbs_9 (by decide) rfl ?_
  refine z_loop (σ := zM × zM × Int32) (fun n y => zFr mem y.1 ∧ zS y.2.1 (y.1 1) ∧ ((y.2.2 = 0 ∧ zOK y.2.1 ∧ rPp (rv y.2.1 k) p0 ∧ ∃ a1 : Nat, y.2.1 (3 * k + 2) t = nI a1 ∧ a1 ≤ 10 ∧ ((a ≤ b ∧ a1 + n = b) ∨ (b < a ∧ a1 = b + n)) ∧ sWalk cm k t b a = wkGo 0 k t (zway a b) (nI b) n y.2.1) ∨ (y.2.2 = 1 ∧ sWalk cm k t b a = (-1, y.2.1)))) (fun y => mw am cI dg y.1) (fun y => [(5, .int y.2.2), (4, .int (nI (14 * k + 9 + 2 * t))), (0, .ref (am 0)), (1, .int (nI k)), (2, .int (nI t)), (3, .int (nI b))]) 11 0 0 ?_ (zdist a b) (mem, cm, 0) ⟨zFr.refl mem, hS, Or.inl ⟨rfl, hok, hpp, a, hcur0, ha, by unfold zdist; split <;> omega, rfl⟩⟩ rfl rfl rfl rfl rfl
  rintro n ⟨m, c1, fl⟩ ⟨hfr, hS0, hI⟩ ih
  dsimp only at hfr hS0 hI ⊢
  rcases hI with ⟨hfl, hok0, hpp0, a1, hcur, ha1, hcase, hgo⟩ | ⟨hfl, hgo⟩
  · skip
    subst hfl
    obtain ⟨p1, hp1, hm1⟩ := hS0.1 k hk
    have hpe := rPp_unique hpp0 hp1
    have hcv : m 1 (14 * k + 9 + 2 * t) = nI a1 := by rw [(hm1.2.2.2.2.2.2.2.2 t (by omega)).2, rv_step (by omega)]; exact hcur
    have h57 : m 1 57 = c1 87 2 := hS0.2.2
    refine z_iload E dX6_climbs_11 0 rfl ?_
    refine z_if_ne_f (tgt := 74) E dX6_climbs_13 (by decide) (by decide) ?_
    refine z_aload_n E dX6_climbs_16 rfl 2 rfl ?_
    refine z_get E 0 mw_obj (C := RX6) (T := TX6) (N := 16) rfl (fun _ h => List.mem_cons_of_mem _ (List.mem_append_right _ h)) 1 (by decide) (List.mem_of_getElem? (i := 1) (by decide +kernel)) rfl (v := .ref (am 1)) rfl dX6_climbs_17 ?_
    refine z_iload E dX6_climbs_20 1 rfl ?_
    refine z_iald E 1 0 mw_s rfl (vp_in_nI (by omega) (by decide)) (v := nI a1) ((congrArg (m 1) (nI_clamp (by omega))).trans hcv) dX6_climbs_22 ?_
    refine z_iload_n E dX6_climbs_23 rfl 5 rfl ?_
    refine z_icmp_eq (tgt := 74) E dX6_climbs_24 (by decide) (fun c24 => ?_) (fun c24 => ?_)
    · skip
      refine z_iload E dX6_climbs_74 0 rfl ?_
      refine z_if_eq_t (tgt := 83) E dX6_climbs_76 (by decide) (by decide) ?_
      refine z_iload_n E dX6_climbs_83 rfl 5 rfl ?_
      exact z_iretM E hr hlocks (m) rfl ⟨by rw [(hgo.trans (by rw [show n = 0 by have := (nI_eq (by omega) (by omega)).mp c24; omega, wkGo]))], hfr, by rw [(hgo.trans (by rw [show n = 0 by have := (nI_eq (by omega) (by omega)).mp c24; omega, wkGo]))]; exact hS0⟩ (Nat.le_of_ble_eq_true rfl) (Nat.le_of_ble_eq_true rfl) dX6_climbs_84
    · skip
      obtain ⟨n, rfl⟩ : ∃ n1, n = n1 + 1 := ⟨n - 1, by have : a1 ≠ b := fun z => c24 (by rw [z]); omega⟩
      refine z_aload_n E dX6_climbs_27 rfl 2 rfl ?_
      refine z_get E 0 mw_obj (C := RX6) (T := TX6) (N := 16) rfl (fun _ h => List.mem_cons_of_mem _ (List.mem_append_right _ h)) 1 (by decide) (List.mem_of_getElem? (i := 1) (by decide +kernel)) rfl (v := .ref (am 1)) rfl dX6_climbs_28 ?_
      refine z_iload E dX6_climbs_31 1 rfl ?_
      refine z_dup2 E dX6_climbs_33 rfl rfl ?_
      refine z_iald E 1 0 mw_s rfl (vp_in_nI (by omega) (by decide)) (v := nI a1) ((congrArg (m 1) (nI_clamp (by omega))).trans hcv) dX6_climbs_34 ?_
      refine z_join (fun v51 => v51 = zway a b) (pc2 := 51) (c2 := 0) (s2 := 0) (lv2 := (fun _ => [(5, .int 0), (4, .int (nI (14 * k + 9 + 2 * t))), (0, .ref (am 0)), (1, .int (nI k)), (2, .int (nI t)), (3, .int (nI b))])) (st2 := (fun v51 => [.int v51, .int (nI a1), .int (nI (14 * k + 9 + 2 * t)), .ref (am 1)])) (fun v51 hv51 => ?_) (fun J51 => ?_)
      · subst hv51
        refine z_iadd E dX6_climbs_51 ?_
        refine z_iast E 1 0 mw_s rfl (vp_in_nI (by omega) (by decide)) (ws' := mw am cI dg (mset m 1 (14 * k + 9 + 2 * t) ((nI a1) + (zway a b)))) (by rw [nI_clamp (by omega)]; exact (ms_s (14 * k + 9 + 2 * t) ((nI a1) + (zway a b)))) dX6_climbs_52 ?_
        refine z_gm2 (fun m1 hm1 => ?_)
        have xm1_0 : m1 1 (14 * k + 9 + 2 * t) = (nI a1) + (zway a b) := by rw [hm1, mset_at]
        have xm1_1 : m1 1 57 = c1 87 2 := by rw [hm1, mset_ne2 _ _ (by omega)]; exact h57
        obtain ⟨a2, ha2, ha10, hcase2⟩ : ∃ a2 : Nat, nI a1 + zway a b = nI a2 ∧ a2 ≤ 10 ∧ ((a ≤ b ∧ a2 + n = b) ∨ (b < a ∧ a2 = b + n)) := by
          rcases hcase with ⟨g1, g2⟩ | ⟨g1, g2⟩
          · exact ⟨a1 + 1, by unfold zway; rw [if_pos g1, nI_1], by omega, Or.inl ⟨g1, by omega⟩⟩
          · exact ⟨b + n, by unfold zway; rw [if_neg (by omega), g2]; exact pk_m1 (b + n), by omega, Or.inr ⟨g1, rfl⟩⟩
        refine z_aload_n E dX6_climbs_53 rfl 2 rfl ?_
        refine z_get E 0 mw_obj (C := RX6) (T := TX6) (N := 16) rfl (fun _ h => List.mem_cons_of_mem _ (List.mem_append_right _ h)) 1 (by decide) (List.mem_of_getElem? (i := 1) (by decide +kernel)) rfl (v := .ref (am 1)) rfl dX6_climbs_54 ?_
        refine z_bipush (v := 57) E dX6_climbs_57 (by decide) ?_
        refine z_dup2 E dX6_climbs_59 rfl rfl ?_
        refine z_iald E 1 0 mw_s rfl (zvin rfl) (v := c1 87 2) xm1_1 dX6_climbs_60 ?_
        refine z_iconst (v := 1) E dX6_climbs_61 (by decide) ?_
        refine z_iadd E dX6_climbs_62 ?_
        refine z_iast E 1 0 mw_s rfl (zvin rfl) (ws' := mw am cI dg (mset m1 1 57 ((c1 87 2) + 1))) (ms_s 57 ((c1 87 2) + 1)) dX6_climbs_63 ?_
        refine z_gm2 (fun m2 hm2 => ?_)
        have xm2_0 : m2 1 (14 * k + 9 + 2 * t) = (nI a1) + (zway a b) := by rw [hm2, mset_ne2 _ _ (by omega)]; exact xm1_0
        have xm2_1 : m2 1 57 = (c1 87 2) + 1 := by rw [hm2, mset_at]
        have hv2 : c1 (3 * k + 2) t + zway a b = nI a2 := by rw [hcur]; exact ha2
        have hS1 : zS (wkM 0 k t (zway a b) c1) (m2 1) := zS_wkM hk hS0 hpp0 ht ha10 hv2 (by rw [hm2, hm1, mset_self, mset_self, ha2])
        obtain ⟨hok2, hpp2⟩ := zOK_wkM hok0 hk hpp0 ht ha10 hv2
        have fr1 : zFr m m2 := by rw [hm2, hm1]; exact (zFr_s _ _ _).trans (zFr_s _ _ _)
        refine z_aload_n E dX6_climbs_64 rfl 2 rfl ?_
        refine z_iload_n E dX6_climbs_65 rfl 3 rfl ?_
        refine z_callVi E hZ (k_mfalls l D am cI cR cS cL dg m2 hok2 hS1 hk) gX6_climbs_X6_falls (n := 1) rfl rfl rfl (by decide +kernel) rfl ⟨(Nat.le_of_ble_eq_true rfl), (Nat.le_of_ble_eq_true rfl)⟩ (C := RX6) rfl 0 mw_obj (As := [.int (nI k)]) (rest := []) rfl (Nat.le_of_ble_eq_true rfl) ⟨(Nat.le_of_ble_eq_true rfl), (Nat.le_of_ble_eq_true rfl)⟩ dX6_climbs_66 (fun r m3 hp => ?_)
        rw [hp.1]
        have frm3 := hp.2.1
        have hSm3 := hp.2.2
        refine z_istore (lv' := [(5, .int (fFN (rv (wkM 0 k t (zway a b) c1) k))), (4, .int (nI (14 * k + 9 + 2 * t))), (0, .ref (am 0)), (1, .int (nI k)), (2, .int (nI t)), (3, .int (nI b))]) E dX6_climbs_69 (by decide) rfl ?_
        refine z_goto (tgt := 11) E dX6_climbs_71 (by decide) ?_
        have frn : zFr mem m3 := (hfr.trans fr1).trans frm3
        have hok3 : zOK (sFN (wkM 0 k t (zway a b) c1) 0 k) := zOK_FN hok2 hk
        rcases fFN_01 (rv (wkM 0 k t (zway a b) c1) k) with hf | hf
        · exact ih n (m3, sFN (wkM 0 k t (zway a b) c1) 0 k, fFN (rv (wkM 0 k t (zway a b) c1) k)) (by omega) ⟨frn, hSm3, Or.inl ⟨hf, hok3, by rw [sFN_0 hf]; exact hpp2, a2, by show sFN _ 0 k (3 * k + 2) t = nI a2; rw [sFN_0 hf, wkM_at hk, hcur]; exact ha2, ha10, hcase2, by show _ = wkGo 0 k t (zway a b) (nI b) n (sFN _ 0 k); rw [sFN_0 hf, hgo, wkGo_succ, if_neg (fun z => by rw [fFN_pp hpp2 (by omega), if_pos z] at hf; exact absurd hf (by decide))]⟩⟩
        · exact ih n (m3, sFN (wkM 0 k t (zway a b) c1) 0 k, fFN (rv (wkM 0 k t (zway a b) c1) k)) (by omega) ⟨frn, hSm3, Or.inr ⟨hf, by show _ = (-1, sFN _ 0 k); rw [sFN_1 hf, hgo, wkGo_succ, if_pos (Decidable.byContradiction (fun z => by rw [fFN_pp hpp2 (by omega), if_neg z] at hf; exact absurd hf (by decide)))]⟩⟩
      · skip
        refine z_aload_n E dX6_climbs_35 rfl 2 rfl ?_
        refine z_get E 0 mw_obj (C := RX6) (T := TX6) (N := 16) rfl (fun _ h => List.mem_cons_of_mem _ (List.mem_append_right _ h)) 1 (by decide) (List.mem_of_getElem? (i := 1) (by decide +kernel)) rfl (v := .ref (am 1)) rfl dX6_climbs_36 ?_
        refine z_iload E dX6_climbs_39 1 rfl ?_
        refine z_iald E 1 0 mw_s rfl (vp_in_nI (by omega) (by decide)) (v := nI a1) ((congrArg (m 1) (nI_clamp (by omega))).trans hcv) dX6_climbs_41 ?_
        refine z_iload_n E dX6_climbs_42 rfl 5 rfl ?_
        refine z_icmp_ge (tgt := 50) E dX6_climbs_43 (by decide) (fun c43 => ?_) (fun c43 => ?_)
        · skip
          refine z_iconst (v := -1) E dX6_climbs_50 (by decide) ?_
          exact J51 _ (show (-1 : Int32) = zway a b from (if_neg (by have := (nI_leI (by omega) (by omega)).mp c43; omega)).symm)
        · skip
          refine z_iconst (v := 1) E dX6_climbs_46 (by decide) ?_
          refine z_goto (tgt := 51) E dX6_climbs_47 (by decide) ?_
          exact J51 _ (show (1 : Int32) = zway a b from (if_pos (by have := mt (nI_leI (a := b) (b := a1) (by omega) (by omega)).mpr c43; omega)).symm)
  · skip
    subst hfl
    refine z_iload E dX6_climbs_11 0 rfl ?_
    refine z_if_ne_t (tgt := 74) E dX6_climbs_13 (by decide) (by decide) ?_
    refine z_iload E dX6_climbs_74 0 rfl ?_
    refine z_if_eq_f (tgt := 83) E dX6_climbs_76 (by decide) (by decide) ?_
    refine z_iconst (v := -1) E dX6_climbs_79 (by decide) ?_
    refine z_goto (tgt := 84) E dX6_climbs_80 (by decide) ?_
    exact z_iretM E hr hlocks (m) rfl ⟨by rw [hgo], hfr, by rw [hgo]; exact hS0⟩ (Nat.le_of_ble_eq_true rfl) (Nat.le_of_ble_eq_true rfl) dX6_climbs_84
