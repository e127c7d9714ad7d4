/-! the reference: undo -/
def cdU (E : String) : Int32 := 1
theorem zR_undo {B : Nat} {c mm u : zM} {q zz L : Nat} (h : zR B c mm q (zz + 1) L) (h1 : ∀ j, j < 58 → u 1 j = mm 2 (58 * zz + j)) (h2 : u 2 = mm 2) (h3 : u 3 = mm 3) (h4 : u 0 3 = nI zz) (h5 : u 0 5 = mm 0 5) : zR B (sRest c (latest q) (zz + 1)) u (latest q) zz L := by
  obtain ⟨a1, ⟨b1, b2, b3, b4, b5, b6⟩, d1, d2, d3, d4⟩ := h
  have lt := latest_lt b1
  have keep : ∀ i, 12 ≤ i → i ≠ 87 → i ≠ 101 → sRest c (latest q) (zz + 1) i = c i := fun i x y w => by
    unfold sRest
    rw [mset_ne _ _ _ w, mset_ne _ _ _ w, sSiteCopy_ne (by omega) (by omega)]
  have e0 : zSl q (zz + 1) zz = latest q := by unfold zSl latest; split <;> omega
  have top := b6 zz (by omega)
  rw [e0] at top
  have s87' := sSiteCopy_87 (c := c) (t := 0) (t2 := latest q + 1) (by omega) (by omega)
  have s87 : sRest c (latest q) (zz + 1) (87 + 0) = sSiteCopy c 0 (latest q + 1) (87 + 0) := by
    unfold sRest
    rw [mset_ne _ _ _ (by omega), mset_ne _ _ _ (by omega)]
  refine ⟨?_, ⟨lt, by omega, ?_, ?_, h4, fun i hi => ?_⟩, d1, by rw [keep _ (by omega) (by omega) (by omega)]; exact d2, by rw [h5]; exact d3, fun i hi => by rw [h3, keep 104 (by omega) (by omega) (by omega)]; exact d4 i hi⟩
  · refine zSite_congr (t := latest q + 1) (Nat.le_refl B) (fun k hk => ?_) h1 (by rw [s87]; exact s87'.1) (by rw [s87]; exact s87'.2) top
    have e : rv (sRest c (latest q) (zz + 1)) (4 * 0 + k) = rv (sSiteCopy c 0 (latest q + 1)) (4 * 0 + k) := by
      unfold sRest
      rw [rv_ne (by omega) (by omega) (by omega), rv_ne (by omega) (by omega) (by omega)]
    rw [e]
    exact sSiteCopy_rv (by omega) (by omega) (by omega) hk
  · unfold sRest
    rw [mset_ne2 _ _ (by decide), mset_at]
  · unfold sRest
    rw [mset_at, nI_pred]
  · have e : zSl q (zz + 1) i = zSl (latest q) zz i := by unfold zSl latest; split <;> omega
    have l6 : zSl (latest q) zz i < 6 := Nat.mod_lt _ (by omega)
    have := b6 i (by omega)
    rw [e] at this
    exact zSite_congr (Nat.le_refl B) (fun k hk => rv_eq (keep _ (by omega) (by omega) (by omega)) (keep _ (by omega) (by omega) (by omega)) (keep _ (by omega) (by omega) (by omega))) (fun j _ => by rw [h2]) (by rw [keep _ (by omega) (by omega) (by omega)]) (by rw [keep _ (by omega) (by omega) (by omega)]) this
set_option maxHeartbeats 1000000 in
set_option maxRecDepth 100000 in
theorem k_mundo (l : Launch) (D : va_G) (am : Nat → Nat) (cI cR cS cL : ClassId) (dg : Int64) (mem : zM) {B : Nat} {cm : zM} {q z L : Nat} (hR : zR B cm mem q z L) : zMi l yX6_undo wsX6_undo ({ frames := 1, cells := 0, slots := 0, locals := 21 }) D (cK cI cR cS cL) [.ref (am 0)] (mw am cI dg mem) (fun r u => mAns cdU (fun c' => ∃ q' z', zR (B + 180) c' u q' z' L) (sUndo cm q z) r (u 0 0)) (mw am cI dg) 0 0 := by
  refine zMiM.of (cc := cX6_undo) (maxL := 2) (ret := (some .int)) (by decide +kernel) rfl (lv0 := [(0, .ref (am 0))]) (Nat.le_of_ble_eq_true rfl) rfl ?_
  intro p e s m args below meth c E hZ hr hlocks hnm
  have hsv : mem 0 3 = nI z := hR.2.1.2.2.2.2.1
  refine z_aload_n E dX6_undo_0 rfl 0 rfl ?_
  refine z_aload_n E dX6_undo_1 rfl 0 rfl ?_
  refine z_get E 0 mw_obj (C := RX6) (T := TX6) (N := 16) rfl (fun _ h => List.mem_cons_of_mem _ (List.mem_append_right _ h)) 3 (by decide) (List.mem_of_getElem? (i := 1) (by decide +kernel)) rfl (v := .int (nI z)) (congrArg (fun z : Int32 => some (Value.int z)) hsv) dX6_undo_2 ?_
  refine z_if_le (tgt := 12) E dX6_undo_5 (by decide) (fun c5 => ?_) (fun c5 => ?_)
  · skip
    refine z_iconst (v := 1) E dX6_undo_12 (by decide) ?_
    refine z_callVi E hZ (k_holds l D am cI cR cS cL dg mem 1) gX6_undo_X6_holds (n := 1) rfl rfl rfl (by decide +kernel) rfl ⟨(Nat.le_of_ble_eq_true rfl), (Nat.le_of_ble_eq_true rfl)⟩ (C := RX6) rfl 0 mw_obj (As := [.int 1]) (rest := []) rfl (Nat.le_of_ble_eq_true rfl) ⟨(Nat.le_of_ble_eq_true rfl), (Nat.le_of_ble_eq_true rfl)⟩ dX6_undo_13 (fun r m1 hp => ?_)
    have hm1 := hp.2
    rw [hp.1, show (if (1 : Int32) = 0 then (1 : Int32) else 0) = 0 by decide]
    have hR0 : zR B cm m1 q z L := zR_fld hR (by rw [hm1, mset_ne _ _ _ (by decide)]) (by rw [hm1, mset_ne _ _ _ (by decide)]) (by rw [hm1, mset_ne _ _ _ (by decide)]) (by rw [hm1, mset_ne2 _ _ (by decide)]) (by rw [hm1, mset_ne2 _ _ (by decide)])
    have hth : m1 0 0 = 1 := by rw [hm1, mset_at]
    refine z_if_ne_f (tgt := 21) E dX6_undo_16 (by decide) (by decide) ?_
    refine z_iconst (v := 0) E dX6_undo_19 (by decide) ?_
    exact z_iretM E hr hlocks (m1) rfl (Or.inl ⟨"java/lang/IllegalStateException", cm, if_pos (by rw [hR.2.1.2.2.2.1, show z = 0 by have := (nI_leI (a := z) (b := 0) (by have := hR.2.1.2.1; omega) (by omega)).mp c5; omega]; rfl), hth, q, z, zR_mono (by omega) hR0⟩) (Nat.le_of_ble_eq_true rfl) (Nat.le_of_ble_eq_true rfl) dX6_undo_20
  · skip
    refine z_iconst (v := 0) E dX6_undo_8 (by decide) ?_
    refine z_goto (tgt := 13) E dX6_undo_9 (by decide) ?_
    refine z_callVi E hZ (k_holds l D am cI cR cS cL dg mem 0) gX6_undo_X6_holds (n := 1) rfl rfl rfl (by decide +kernel) rfl ⟨(Nat.le_of_ble_eq_true rfl), (Nat.le_of_ble_eq_true rfl)⟩ (C := RX6) rfl 0 mw_obj (As := [.int 0]) (rest := []) rfl (Nat.le_of_ble_eq_true rfl) ⟨(Nat.le_of_ble_eq_true rfl), (Nat.le_of_ble_eq_true rfl)⟩ dX6_undo_13 (fun r m2 hp => ?_)
    have hm2 := hp.2
    rw [hp.1, show (if (0 : Int32) = 0 then (1 : Int32) else 0) = 1 by decide]
    have hR0 : zR B cm m2 q z L := zR_fld hR (by rw [hm2, mset_ne _ _ _ (by decide)]) (by rw [hm2, mset_ne _ _ _ (by decide)]) (by rw [hm2, mset_ne _ _ _ (by decide)]) (by rw [hm2, mset_ne2 _ _ (by decide)]) (by rw [hm2, mset_ne2 _ _ (by decide)])
    have hth : m2 0 0 = 0 := by rw [hm2, mset_at]
    refine z_if_ne_t (tgt := 21) E dX6_undo_16 (by decide) (by decide) ?_
    obtain ⟨zz, rfl⟩ : ∃ zz, z = zz + 1 := ⟨z - 1, by have : ¬ z = 0 := fun q0 => c5 (by rw [q0]; exact Int32.le_refl _); omega⟩
    have hsm : m2 0 3 = nI (zz + 1) := hR0.2.1.2.2.2.2.1
    refine z_aload_n E dX6_undo_21 rfl 0 rfl ?_
    refine z_dup E dX6_undo_22 rfl ?_
    refine z_get E 0 mw_obj (C := RX6) (T := TX6) (N := 16) rfl (fun _ h => List.mem_cons_of_mem _ (List.mem_append_right _ h)) 3 (by decide) (List.mem_of_getElem? (i := 1) (by decide +kernel)) rfl (v := .int (nI (zz + 1))) (congrArg (fun z : Int32 => some (Value.int z)) hsm) dX6_undo_23 ?_
    refine z_iconst (v := 1) E dX6_undo_26 (by decide) ?_
    refine z_isub E dX6_undo_27 ?_
    rw [nI_pred zz]
    refine z_put E 0 mw_obj (C := RX6) (T := TX6) (N := 16) rfl (fun _ h => List.mem_cons_of_mem _ (List.mem_append_right _ h)) tyX6 tyX6_ok nmX6 3 (by decide) (List.mem_of_getElem? (i := 1) (by decide +kernel)) rfl rfl rfl rfl (Nat.le_of_ble_eq_true rfl) (ws' := mw am cI dg (mset m2 0 3 (nI zz))) (ms_obj 3 (by decide) (by decide) rfl) dX6_undo_28 ?_
    refine z_gm2 (fun m3 hm3 => ?_)
    have xm3_0 : m3 0 3 = nI zz := by rw [hm3, mset_at]
    refine z_iconst (v := 0) E dX6_undo_31 (by decide) ?_
    refine z_istore_n (lv' := [(1, .int 0), (0, .ref (am 0))]) E dX6_undo_32 rfl (by decide) rfl ?_
    have hzz : m3 0 3 = nI zz := by rw [hm3, mset_at]
    refine z_loop (σ := zM × Nat) (fun n y => y.2 + n = 58 ∧ y.1 0 = m3 0 ∧ y.1 2 = m3 2 ∧ y.1 3 = m3 3 ∧ ∀ j, j < y.2 → y.1 1 j = m3 2 (58 * zz + j)) (fun y => mw am cI dg y.1) (fun y => [(1, .int (nI y.2)), (0, .ref (am 0))]) 33 0 0 ?_ 58 (m3, 0) ⟨rfl, rfl, rfl, rfl, fun j hj => absurd hj (Nat.not_lt_zero j)⟩ rfl rfl rfl rfl rfl
    rintro n2 ⟨m, i2⟩ ⟨hin2, d0, d2, d3, d1⟩ ih
    dsimp only at hin2 d0 d2 d3 d1 ⊢
    have hz2 : m 0 3 = nI zz := by rw [d0]; exact hzz
    have hz6 : zz < 6 := by have := hR.2.1.2.1; omega
    refine z_iload_n E dX6_undo_33 rfl 0 rfl ?_
    refine z_bipush (v := 58) E dX6_undo_34 (by decide) ?_
    refine z_icmp_ge (tgt := 65) E dX6_undo_36 (by decide) (fun c36 => ?_) (fun c36 => ?_)
    · skip
      refine z_aload_n E dX6_undo_65 rfl 1 rfl ?_
      refine z_get E 0 mw_obj (C := RX6) (T := TX6) (N := 16) rfl (fun _ h => List.mem_cons_of_mem _ (List.mem_append_right _ h)) 3 (by decide) (List.mem_of_getElem? (i := 1) (by decide +kernel)) rfl (v := .int (nI zz)) (congrArg (fun z : Int32 => some (Value.int z)) hz2) dX6_undo_66 ?_
      exact z_iretM E hr hlocks (m) rfl (Or.inr ⟨_, _, if_neg (by rw [hR.2.1.2.2.2.1]; exact nI_ne0 (Nat.succ_pos zz) (by omega)), by rw [d0, hm3, mset_ne2 _ _ (by decide)]; exact hth, by unfold sRest; rw [mset_at, nI_pred], latest q, zz, zR_mono (by omega) (zR_undo hR0 (fun j hj => by rw [d1 j (by rw [(show i2 = 58 by have := (nI_leI (a := 58) (b := i2) (by omega) (by omega)).mp c36; omega)]; exact hj), hm3, mset_ne _ _ _ (by decide)]) (by rw [d2, hm3, mset_ne _ _ _ (by decide)]) (by rw [d3, hm3, mset_ne _ _ _ (by decide)]) hz2 (by rw [d0, hm3, mset_ne2 _ _ (by decide)]))⟩) (Nat.le_of_ble_eq_true rfl) (Nat.le_of_ble_eq_true rfl) dX6_undo_69
    · skip
      obtain ⟨n2, rfl⟩ : ∃ n1, n2 = n1 + 1 := ⟨n2 - 1, by have := zklt (k := i2) (L := 58) (by omega) (by omega) c36; omega⟩
      refine z_aload_n E dX6_undo_39 rfl 1 rfl ?_
      refine z_get E 0 mw_obj (C := RX6) (T := TX6) (N := 16) rfl (fun _ h => List.mem_cons_of_mem _ (List.mem_append_right _ h)) 1 (by decide) (List.mem_of_getElem? (i := 2) (by decide +kernel)) rfl (v := .ref (am 1)) rfl dX6_undo_40 ?_
      refine z_iload_n E dX6_undo_43 rfl 0 rfl ?_
      refine z_aload_n E dX6_undo_44 rfl 1 rfl ?_
      refine z_get E 0 mw_obj (C := RX6) (T := TX6) (N := 16) rfl (fun _ h => List.mem_cons_of_mem _ (List.mem_append_right _ h)) 2 (by decide) (List.mem_of_getElem? (i := 3) (by decide +kernel)) rfl (v := .ref (am 2)) rfl dX6_undo_45 ?_
      refine z_bipush (v := 58) E dX6_undo_48 (by decide) ?_
      refine z_aload_n E dX6_undo_50 rfl 1 rfl ?_
      refine z_get E 0 mw_obj (C := RX6) (T := TX6) (N := 16) rfl (fun _ h => List.mem_cons_of_mem _ (List.mem_append_right _ h)) 3 (by decide) (List.mem_of_getElem? (i := 1) (by decide +kernel)) rfl (v := .int (nI zz)) (congrArg (fun z : Int32 => some (Value.int z)) hz2) dX6_undo_51 ?_
      refine z_imul E dX6_undo_54 ?_
      refine z_iload_n E dX6_undo_55 rfl 0 rfl ?_
      refine z_iadd E dX6_undo_56 ?_
      rw [show (58 * (nI zz)) + (nI i2) = nI (58 * zz + i2) by rw [show (58 : Int32) = nI 58 from rfl, pk_mul, nI_add]]
      refine z_iald E 2 0 mw_saved rfl (vp_in_nI (by omega) (by decide)) (v := m 2 (58 * zz + i2)) ((congrArg (m 2) (nI_clamp (by omega))).trans rfl) dX6_undo_57 ?_
      refine z_iast E 1 0 mw_s rfl (vp_in_nI (by omega) (by decide)) (ws' := mw am cI dg (mset m 1 i2 (m 2 (58 * zz + i2)))) (by rw [nI_clamp (by omega)]; exact (ms_s i2 (m 2 (58 * zz + i2)))) dX6_undo_58 ?_
      refine z_gm2 (fun m4 hm4 => ?_)
      have xm4_0 : m4 0 3 = nI zz := by rw [hm4, mset_ne _ _ _ (by omega)]; exact hz2
      refine z_iinc (v := nI i2 + 1) (lv' := [(1, .int (nI i2 + 1)), (0, .ref (am 0))]) E dX6_undo_59 (q := 0) rfl rfl (by decide) rfl ?_
      refine z_goto (tgt := 33) E dX6_undo_62 (by decide) ?_
      refine z_eq (ws' := mw am cI dg m4) (lv' := [(1, .int (nI (i2 + 1))), (0, .ref (am 0))]) (st' := []) rfl (by rw [← nI_1 i2]) rfl ?_
      refine ih n2 (m4, i2 + 1) (by omega) ⟨by show i2 + 1 + n2 = 58; omega, by show m4 0 = _; rw [hm4, mset_ne _ _ _ (by decide)]; exact d0, by show m4 2 = _; rw [hm4, mset_ne _ _ _ (by decide)]; exact d2, by show m4 3 = _; rw [hm4, mset_ne _ _ _ (by decide)]; exact d3, fun j hj => ?_⟩
      show m4 1 j = m3 2 (58 * zz + j)
      replace hj : j < i2 + 1 := hj
      rw [hm4]
      by_cases e : j = i2
      · rw [e, mset_at, d2]
      · rw [mset_ne2 _ _ e]; exact d1 j (by omega)
