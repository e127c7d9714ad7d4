/-! the reference: the buffer is gone through -/
/-- what a part does to the count of the fallen -/
theorem fPPj_F {c : zM} {j F : Nat} (hok : zOK c) (hr : zRowJ (c 105) j) (hF : c 87 1 = nI F) : ∃ F', F' ≤ F + 3 ∧ (fPPj c j).2 87 1 = nI F' := by
  obtain ⟨hj, h3, v, h5, hk⟩ := hr
  obtain ⟨hfd, p, hp⟩ := hok j hj
  have e7 : c (3 * j) 7 = nI p := hp.2.1
  have hp3 := hp.1
  have same : ∃ F', F' ≤ F + 3 ∧ c 87 1 = nI F' := ⟨F, by omega, hF⟩
  unfold fPPj
  rcases hk with ⟨e, v1, v2⟩ | ⟨e, v1⟩ | ⟨e, v1⟩ | e
  · rw [if_pos e]
    split
    · next h0 =>
      have p3 := fFull_lt hp.2.1 hp3 h0
      refine sFN_F (p := p + 1) hj ?_ ?_
      · rw [zOnly_add j c _ 87 (by omega) (by omega) (by omega)]; exact hF
      · rw [h5, rv_add hp.2.1 p3]
        exact rPp_add hp p3 v1 v2
    · exact same
  · rw [if_neg (by rw [e]; decide), if_pos e, h5]
    refine sFN_F (p := p) hj (by rw [mset_ne _ _ _ (by omega)]; exact hF) ?_
    rw [rv_fld (by omega)]
    exact rPp_congr (fun i h7 _ => pk_un (by omega)) hp
  · rw [if_neg (by rw [e]; decide), if_neg (by rw [e]; decide), if_pos e]
    split
    · exact same
    · next h0 =>
      have p0 : 0 < p := Nat.pos_of_ne_zero (fun z => h0 (by rw [e7, z]; rfl))
      exact sWalk_F hj hp p0 hF
  · rw [if_neg (by rw [e]; decide), if_neg (by rw [e]; decide), if_neg (by rw [e]; decide)]
    split
    · exact same
    · next h0 =>
      have p0 : 0 < p := Nat.pos_of_ne_zero (fun z => h0 (by rw [e7, z]; rfl))
      obtain ⟨k, rfl⟩ : ∃ k, p = k + 1 := ⟨p - 1, by omega⟩
      rw [e7, nI_pred]
      have hb : ¬ fBears (rv c j) (nI k) = 0 := fBears_of hp.2.1 hp3 (by omega)
      refine sFN_F (p := k) hj (by rw [zOnly_remove j c _ 87 (by omega) (by omega) (by omega)]; exact hF) ?_
      rw [rv_remove hb, nI_clamp (by omega)]
      exact rPp_rm hp (by omega)
theorem fPPj_0 {c : zM} {j : Nat} (h : (fPPj c j).1 = 0) : (fPPj c j).2 = c := by
  unfold fPPj at h ⊢
  split at h <;> split at h <;> (try split at h) <;> (try split at h) <;> first | exact absurd h (by decide) | simp_all
theorem zsw (a : Nat) (x : Nat × zM) : ((a + (x.1 + 1), x.2) : Nat × zM) = (a + 1 + x.1, x.2) := by
  obtain ⟨b, y⟩ := x
  show (a + (b + 1), y) = (a + 1 + b, y)
  rw [show a + (b + 1) = a + 1 + b by omega]
def zTh (cs : Nat → Int32) (L : Nat) (u : zM) : Prop := (u 0 11 = 1 ∧ ∃ k, u 0 10 = nI k ∧ zNo cs L k) ∨ (u 0 11 = 0 ∧ zYes cs L)
/-- what else stays -/
def zF6 (mem u : zM) : Prop := u 2 = mem 2 ∧ u 3 = mem 3 ∧ ∀ j, j < 6 → u 0 j = mem 0 j
theorem zF6.trans {a b c : zM} (h1 : zF6 a b) (h2 : zF6 b c) : zF6 a c := ⟨h2.1.trans h1.1, h2.2.1.trans h1.2.1, fun j hj => (h2.2.2 j hj).trans (h1.2.2 j hj)⟩
theorem zFr.f6 {mem u : zM} (h : zFr mem u) : zF6 mem u := ⟨h.1, h.2.1, fun j hj => h.2.2 j (Or.inl hj)⟩
theorem zRd.f6 {mem u : zM} (h : zRd mem u) : zF6 mem u := ⟨h.1 2 (by decide), h.1 3 (by decide), fun j hj => h.2 j (by omega)⟩
theorem zCh_cs {m : zM} {cs : Nat → Int32} {L : Nat} (h : ∀ i, i < L → m 3 i = cs i) {P : Nat} : zCh m P L = zCs cs L P := by
  unfold zCh zCs
  by_cases q : P < L
  · rw [if_pos q, if_pos q, h P q]
  · rw [if_neg q, if_neg q]
theorem z59 {x : Int32} (h : ¬ x = 59) : x < 59 ∨ 59 < x := by
  rw [Int32.lt_iff_toInt_lt, Int32.lt_iff_toInt_lt]
  have : x.toInt ≠ (59 : Int32).toInt := fun e => h (Int32.toInt_inj.mp e)
  omega
set_option maxHeartbeats 1000000 in
set_option maxRecDepth 100000 in
theorem k_thruF (l : Launch) (D : va_G) (am : Nat → Nat) (cI cR cS cL : ClassId) (dg : Int64) (mem : zM) {L : Nat} (hL : L ≤ 60) (hln : mem 0 5 = nI L) {cs : Nat → Int32} (hc : zCd cs L) (ht : ∀ i, i < L → mem 3 i = cs i) : zMi l yX6_goesThrough wsX6_goesThrough ({ frames := 7, cells := 0, slots := 0, locals := 167 }) D (cK cI cR cS cL) [.ref (am 0), .int 0] (mw am cI dg mem) (fun r u => zRd mem u ∧ zTh cs L u) (mw am cI dg) 0 0 := by
  refine zMiM.of (cc := cX6_goesThrough) (maxL := 5) (ret := (some .int)) (by decide +kernel) rfl (lv0 := [(0, .ref (am 0)), (1, .int 0)]) (Nat.le_of_ble_eq_true rfl) rfl ?_
  intro p e s m args below meth c E hZ hr hlocks hnm
  refine z_aload_n E dX6_goesThrough_0 rfl 0 rfl ?_
  refine z_iconst (v := 0) E dX6_goesThrough_1 (by decide) ?_
  refine z_put E 0 mw_obj (C := RX6) (T := TX6) (N := 16) rfl (fun _ h => List.mem_cons_of_mem _ (List.mem_append_right _ h)) tyX6 tyX6_ok nmX6 10 (by decide) (List.mem_of_getElem? (i := 1) (by decide +kernel)) rfl rfl rfl rfl (Nat.le_of_ble_eq_true rfl) (ws' := mw am cI dg (mset mem 0 10 0)) (ms_obj 10 (by decide) (by decide) rfl) dX6_goesThrough_2 ?_
  refine z_gm2 (fun m1 hm1 => ?_)
  refine z_aload_n E dX6_goesThrough_5 rfl 0 rfl ?_
  refine z_iconst (v := 0) E dX6_goesThrough_6 (by decide) ?_
  refine z_put E 0 mw_obj (C := RX6) (T := TX6) (N := 16) rfl (fun _ h => List.mem_cons_of_mem _ (List.mem_append_right _ h)) tyX6 tyX6_ok nmX6 11 (by decide) (List.mem_of_getElem? (i := 2) (by decide +kernel)) rfl rfl rfl rfl (Nat.le_of_ble_eq_true rfl) (ws' := mw am cI dg (mset m1 0 11 0)) (ms_obj 11 (by decide) (by decide) rfl) dX6_goesThrough_7 ?_
  refine z_gm2 (fun m2 hm2 => ?_)
  refine z_iconst (v := 0) E dX6_goesThrough_10 (by decide) ?_
  refine z_istore_n (lv' := [(2, .int 0), (0, .ref (am 0)), (1, .int 0)]) E dX6_goesThrough_11 rfl (by decide) rfl ?_
  refine z_iconst (v := 1) E dX6_goesThrough_12 (by decide) ?_
  refine z_istore_n (lv' := [(3, .int 1), (2, .int 0), (0, .ref (am 0)), (1, .int 0)]) E dX6_goesThrough_13 rfl (by decide) rfl ?_
  refine z_loop (σ := zM × Int32 × Int32 × Nat) (fun n y => zRd mem y.1 ∧ ((y.2.2.1 = 1 ∧ y.1 0 10 = nI y.2.2.2 ∧ y.1 0 11 = 0 ∧ zIn cs L y.2.2.2 ∧ L < y.2.2.2 + n) ∨ (y.2.2.1 = 0 ∧ zTh cs L y.1))) (fun y => mw am cI dg y.1) (fun y => [(3, .int y.2.2.1), (2, .int y.2.1), (0, .ref (am 0)), (1, .int 0)]) 14 0 0 ?_ (L + 1) (m2, 0, 1, 0) ⟨by show zRd mem m2; rw [hm2, hm1]; exact (((zRd.refl mem).fld (by omega) _).fld (by omega) _), Or.inl ⟨rfl, by show m2 0 10 = nI 0; rw [hm2, mset_ne2 _ _ (by decide), hm1, mset_at]; rfl, by show m2 0 11 = 0; rw [hm2, mset_at], zIn_0 cs L, by show L < 0 + (L + 1); omega⟩⟩ rfl rfl rfl rfl rfl
  rintro n ⟨m, N, mo, P1⟩ ⟨zr, hI⟩ ih
  dsimp only at zr hI ⊢
  rcases hI with ⟨hmo, i10, i11, hin, hfu⟩ | ⟨hmo, hth⟩
  · skip
    subst hmo
    have hP1 := hin.1
    have i5 : m 0 5 = nI L := (zr.2 5 (by omega)).trans hln
    have i3 : ∀ i, i < L → m 3 i = cs i := fun i hi => by rw [zr.1 3 (by decide)]; exact ht i hi
    obtain ⟨n, rfl⟩ : ∃ n1, n = n1 + 1 := ⟨n - 1, by omega⟩
    refine z_iload_n E dX6_goesThrough_14 rfl 0 rfl ?_
    refine z_if_eq_f (tgt := 109) E dX6_goesThrough_15 (by decide) (by decide) ?_
    refine z_aload_n E dX6_goesThrough_18 rfl 2 rfl ?_
    refine z_callVv E hZ (k_readPart l D am cI cR cS cL dg m (P := P1) (L := L) hP1 hL i10 i5 i11 (c0 := zCs cs L P1) (w1 := zCs cs L (P1 + 1)) (d0 := zCs cs L (P1 + 2)) (zCh_cs i3) (zCh_cs i3) (zCh_cs i3)) gX6_goesThrough_X6_readPart (n := 0) rfl rfl rfl (by decide +kernel) rfl ⟨(Nat.le_of_ble_eq_true rfl), (Nat.le_of_ble_eq_true rfl)⟩ (C := RX6) rfl 0 mw_obj (As := []) (rest := []) rfl (Nat.le_of_ble_eq_true rfl) ⟨(Nat.le_of_ble_eq_true rfl), (Nat.le_of_ble_eq_true rfl)⟩ dX6_goesThrough_19 (fun m3 hp => ?_)
    have zr1 : zRd m m3 := hp.1
    have zpt := zPart hc hP1 i3 hp
    clear hp
    rcases zpt with ⟨j11, k1, j10, hk1, hbd⟩ | ⟨j11, k1, j1, v1, j10, j12, j14, hop⟩
    · skip
      refine z_aload_n E dX6_goesThrough_22 rfl 2 rfl ?_
      refine z_get E 0 mw_obj (C := RX6) (T := TX6) (N := 16) rfl (fun _ h => List.mem_cons_of_mem _ (List.mem_append_right _ h)) 11 (by decide) (List.mem_of_getElem? (i := 2) (by decide +kernel)) rfl (v := .int 1) (congrArg (fun z : Int32 => some (Value.int z)) j11) dX6_goesThrough_23 ?_
      refine z_if_ne_t (tgt := 44) E dX6_goesThrough_26 (by decide) (by decide) ?_
      refine z_iconst (v := 0) E dX6_goesThrough_44 (by decide) ?_
      refine z_istore_n (lv' := [(3, .int 0), (2, .int N), (0, .ref (am 0)), (1, .int 0)]) E dX6_goesThrough_45 rfl (by decide) rfl ?_
      refine z_iload_n E dX6_goesThrough_46 rfl 1 rfl ?_
      refine z_iload_n E dX6_goesThrough_47 rfl 0 rfl ?_
      refine z_if_eq_t (tgt := 55) E dX6_goesThrough_48 (by decide) (by decide) ?_
      refine z_iconst (v := 0) E dX6_goesThrough_55 (by decide) ?_
      refine z_iadd E dX6_goesThrough_56 ?_
      refine z_istore_n (lv' := [(2, .int (N + 0)), (3, .int 0), (0, .ref (am 0)), (1, .int 0)]) E dX6_goesThrough_57 rfl (by decide) rfl ?_
      refine z_iload_n E dX6_goesThrough_58 rfl 1 rfl ?_
      refine z_if_eq_t (tgt := 77) E dX6_goesThrough_59 (by decide) (by decide) ?_
      refine z_iconst (v := 0) E dX6_goesThrough_77 (by decide) ?_
      refine z_istore_n (lv' := [(3, .int 0), (2, .int (N + 0)), (0, .ref (am 0)), (1, .int 0)]) E dX6_goesThrough_78 rfl (by decide) rfl ?_
      refine z_iload_n E dX6_goesThrough_79 rfl 0 rfl ?_
      refine z_if_eq_t (tgt := 14) E dX6_goesThrough_80 (by decide) (by decide) ?_
      exact ih n (m3, N + 0, 0, 0) (by omega) ⟨zr.trans zr1, Or.inr ⟨rfl, Or.inl ⟨j11, _, j10, zIn_bad hin hk1 hbd⟩⟩⟩
    · skip
      have hk1 := hop.2.2.1
      have j5 : m3 0 5 = nI L := (zr1.2 5 (by omega)).trans i5
      refine z_aload_n E dX6_goesThrough_22 rfl 2 rfl ?_
      refine z_get E 0 mw_obj (C := RX6) (T := TX6) (N := 16) rfl (fun _ h => List.mem_cons_of_mem _ (List.mem_append_right _ h)) 11 (by decide) (List.mem_of_getElem? (i := 2) (by decide +kernel)) rfl (v := .int 0) (congrArg (fun z : Int32 => some (Value.int z)) j11) dX6_goesThrough_23 ?_
      refine z_if_ne_f (tgt := 44) E dX6_goesThrough_26 (by decide) (by decide) ?_
      refine z_iload_n E dX6_goesThrough_29 rfl 3 rfl ?_
      refine z_if_eq_t (tgt := 40) E dX6_goesThrough_30 (by decide) (by decide) ?_
      refine z_iconst (v := 1) E dX6_goesThrough_40 (by decide) ?_
      refine z_goto (tgt := 45) E dX6_goesThrough_41 (by decide) ?_
      refine z_istore_n (lv' := [(3, .int 1), (2, .int N), (0, .ref (am 0)), (1, .int 0)]) E dX6_goesThrough_45 rfl (by decide) rfl ?_
      refine z_iload_n E dX6_goesThrough_46 rfl 1 rfl ?_
      refine z_iload_n E dX6_goesThrough_47 rfl 0 rfl ?_
      refine z_if_eq_f (tgt := 55) E dX6_goesThrough_48 (by decide) (by decide) ?_
      refine z_iconst (v := 1) E dX6_goesThrough_51 (by decide) ?_
      refine z_goto (tgt := 56) E dX6_goesThrough_52 (by decide) ?_
      refine z_iadd E dX6_goesThrough_56 ?_
      refine z_istore_n (lv' := [(2, .int (N + 1)), (3, .int 1), (0, .ref (am 0)), (1, .int 0)]) E dX6_goesThrough_57 rfl (by decide) rfl ?_
      refine z_iload_n E dX6_goesThrough_58 rfl 1 rfl ?_
      refine z_if_eq_f (tgt := 77) E dX6_goesThrough_59 (by decide) (by decide) ?_
      refine z_aload_n E dX6_goesThrough_62 rfl 2 rfl ?_
      refine z_get E 0 mw_obj (C := RX6) (T := TX6) (N := 16) rfl (fun _ h => List.mem_cons_of_mem _ (List.mem_append_right _ h)) 10 (by decide) (List.mem_of_getElem? (i := 1) (by decide +kernel)) rfl (v := .int (nI (P1 + k1))) (congrArg (fun z : Int32 => some (Value.int z)) j10) dX6_goesThrough_63 ?_
      refine z_aload_n E dX6_goesThrough_66 rfl 2 rfl ?_
      refine z_get E 0 mw_obj (C := RX6) (T := TX6) (N := 16) rfl (fun _ h => List.mem_cons_of_mem _ (List.mem_append_right _ h)) 5 (by decide) (List.mem_of_getElem? (i := 3) (by decide +kernel)) rfl (v := .int (nI L)) (congrArg (fun z : Int32 => some (Value.int z)) j5) dX6_goesThrough_67 ?_
      refine z_icmp_ge (tgt := 77) E dX6_goesThrough_70 (by decide) (fun c70 => ?_) (fun c70 => ?_)
      · skip
        refine z_iconst (v := 0) E dX6_goesThrough_77 (by decide) ?_
        refine z_istore_n (lv' := [(3, .int 0), (2, .int (N + 1)), (0, .ref (am 0)), (1, .int 0)]) E dX6_goesThrough_78 rfl (by decide) rfl ?_
        refine z_iload_n E dX6_goesThrough_79 rfl 0 rfl ?_
        refine z_if_eq_t (tgt := 14) E dX6_goesThrough_80 (by decide) (by decide) ?_
        exact ih n (m3, N + 1, 0, 0) (by omega) ⟨zr.trans zr1, Or.inr ⟨rfl, Or.inr ⟨j11, zIn_end hin hop (by have := (nI_leI (by omega) (by omega)).mp c70; omega)⟩⟩⟩
      · skip
        refine z_iconst (v := 1) E dX6_goesThrough_73 (by decide) ?_
        refine z_goto (tgt := 78) E dX6_goesThrough_74 (by decide) ?_
        refine z_istore_n (lv' := [(3, .int 1), (2, .int (N + 1)), (0, .ref (am 0)), (1, .int 0)]) E dX6_goesThrough_78 rfl (by decide) rfl ?_
        refine z_iload_n E dX6_goesThrough_79 rfl 0 rfl ?_
        refine z_if_eq_f (tgt := 14) E dX6_goesThrough_80 (by decide) (by decide) ?_
        refine z_aload_n E dX6_goesThrough_83 rfl 2 rfl ?_
        refine z_bipush (v := 59) E dX6_goesThrough_84 (by decide) ?_
        refine z_bipush (v := 59) E dX6_goesThrough_86 (by decide) ?_
        have hlt : P1 + k1 < L := zklt (by omega) (by omega) c70
        have s3 : ∀ i, i < L → m3 3 i = cs i := fun i hi => by rw [zr1.1 3 (by decide)]; exact i3 i hi
        refine z_callVi E hZ (k_sign l D am cI cR cS cL dg m3 (P := P1 + k1) (L := L) (by omega) hL j10 j5 j11 59 59) gX6_goesThrough_X6_sign (n := 2) rfl rfl rfl (by decide +kernel) rfl ⟨(Nat.le_of_ble_eq_true rfl), (Nat.le_of_ble_eq_true rfl)⟩ (C := RX6) rfl 0 mw_obj (As := [.int 59, .int 59]) (rest := []) rfl (Nat.le_of_ble_eq_true rfl) ⟨(Nat.le_of_ble_eq_true rfl), (Nat.le_of_ble_eq_true rfl)⟩ dX6_goesThrough_88 (fun r u hp => ?_)
        obtain ⟨-, hpu⟩ := hp
        generalize hrr : r = rs0
        rw [hpu]
        have hch : zCh m3 (P1 + k1) L = cs (P1 + k1) := by unfold zCh; rw [if_pos hlt, s3 _ hlt]
        refine z_gm2 (fun m4 hm4 => ?_)
        by_cases g59 : cs (P1 + k1) = 59
        · skip
          have hb : m4 = mset m3 0 10 (nI (P1 + k1 + 1)) := by rw [hm4]; unfold sSign; rw [hch, g59, if_neg (by decide)]
          have t11 : m4 0 11 = 0 := by rw [hb, mset_ne2 _ _ (by decide)]; exact j11
          refine z_istore (lv' := [(4, .int rs0), (3, .int 1), (2, .int (N + 1)), (0, .ref (am 0)), (1, .int 0)]) E dX6_goesThrough_91 (by decide) rfl ?_
          refine z_aload_n E dX6_goesThrough_93 rfl 3 rfl ?_
          refine z_get E 0 mw_obj (C := RX6) (T := TX6) (N := 16) rfl (fun _ h => List.mem_cons_of_mem _ (List.mem_append_right _ h)) 11 (by decide) (List.mem_of_getElem? (i := 2) (by decide +kernel)) rfl (v := .int 0) (congrArg (fun z : Int32 => some (Value.int z)) t11) dX6_goesThrough_94 ?_
          refine z_if_ne_f (tgt := 104) E dX6_goesThrough_97 (by decide) (by decide) ?_
          refine z_iconst (v := 1) E dX6_goesThrough_100 (by decide) ?_
          refine z_goto (tgt := 105) E dX6_goesThrough_101 (by decide) ?_
          refine z_istore_n (lv' := [(3, .int 1), (4, .int rs0), (2, .int (N + 1)), (0, .ref (am 0)), (1, .int 0)]) E dX6_goesThrough_105 rfl (by decide) rfl ?_
          refine z_goto (tgt := 14) E dX6_goesThrough_106 (by decide) ?_
          refine z_lv [0, 2, 3, 4] (lv' := [(3, .int 1), (2, .int (N + 1)), (0, .ref (am 0)), (1, .int 0)]) rfl ?_
          exact ih n (m4, N + 1, 1, P1 + k1 + 1) (by omega) ⟨by show zRd mem m4; rw [hb]; exact ((zr.trans zr1).fld (by omega) _), Or.inl ⟨rfl, by show m4 0 10 = _; rw [hb, mset_at], t11, zIn_next hin hop hlt g59, by show L < P1 + k1 + 1 + n; omega⟩⟩
        · skip
          have hb : m4 = mset m3 0 11 1 := by rw [hm4]; unfold sSign; rw [hch, if_pos (z59 g59)]
          have t11 : m4 0 11 = 1 := by rw [hb, mset_at]
          refine z_istore (lv' := [(4, .int rs0), (3, .int 1), (2, .int (N + 1)), (0, .ref (am 0)), (1, .int 0)]) E dX6_goesThrough_91 (by decide) rfl ?_
          refine z_aload_n E dX6_goesThrough_93 rfl 3 rfl ?_
          refine z_get E 0 mw_obj (C := RX6) (T := TX6) (N := 16) rfl (fun _ h => List.mem_cons_of_mem _ (List.mem_append_right _ h)) 11 (by decide) (List.mem_of_getElem? (i := 2) (by decide +kernel)) rfl (v := .int 1) (congrArg (fun z : Int32 => some (Value.int z)) t11) dX6_goesThrough_94 ?_
          refine z_if_ne_t (tgt := 104) E dX6_goesThrough_97 (by decide) (by decide) ?_
          refine z_iconst (v := 0) E dX6_goesThrough_104 (by decide) ?_
          refine z_istore_n (lv' := [(3, .int 0), (4, .int rs0), (2, .int (N + 1)), (0, .ref (am 0)), (1, .int 0)]) E dX6_goesThrough_105 rfl (by decide) rfl ?_
          refine z_goto (tgt := 14) E dX6_goesThrough_106 (by decide) ?_
          refine z_lv [0, 2, 3, 4] (lv' := [(3, .int 0), (2, .int (N + 1)), (0, .ref (am 0)), (1, .int 0)]) rfl ?_
          exact ih n (m4, N + 1, 0, 0) (by omega) ⟨by show zRd mem m4; rw [hb]; exact ((zr.trans zr1).fld (by omega) _), Or.inr ⟨rfl, Or.inl ⟨t11, P1 + k1, by show m4 0 10 = _; rw [hb, mset_ne2 _ _ (by decide)]; exact j10, zIn_odd hin hop hlt g59⟩⟩⟩
  · skip
    subst hmo
    refine z_iload_n E dX6_goesThrough_14 rfl 0 rfl ?_
    refine z_if_eq_t (tgt := 109) E dX6_goesThrough_15 (by decide) (by decide) ?_
    refine z_iload_n E dX6_goesThrough_109 rfl 1 rfl ?_
    exact z_iretM E hr hlocks (m) rfl ⟨zr, hth⟩ (Nat.le_of_ble_eq_true rfl) (Nat.le_of_ble_eq_true rfl) dX6_goesThrough_110
theorem zF6_10 (m : zM) (v : Int32) : zF6 m (mset m 0 10 v) := ⟨mset_ne _ _ _ (by decide), mset_ne _ _ _ (by decide), fun j hj => mset_ne2 _ _ (by omega)⟩
theorem zF6_11 (m : zM) (v : Int32) : zF6 m (mset m 0 11 v) := ⟨mset_ne _ _ _ (by decide), mset_ne _ _ _ (by decide), fun j hj => mset_ne2 _ _ (by omega)⟩
theorem zS_np {c : zM} {L q : Nat} {s : Nat → Int32} (h : zS c s) : zS (sNP c L q) s := by
  have k : ∀ i, i ≠ 103 → i ≠ 105 → sNP c L q i = c i := fun i a b => by unfold sNP; rw [mset_ne _ _ _ a, mrow_ne _ _ b]
  refine ⟨fun i hi => ?_, by rw [k 87 (by decide) (by decide)]; exact h.2.1, by rw [k 87 (by decide) (by decide)]; exact h.2.2⟩
  rw [rv_eq (k _ (by omega) (by omega)) (k _ (by omega) (by omega)) (k _ (by omega) (by omega))]
  exact h.1 i hi
set_option maxHeartbeats 1000000 in
set_option maxRecDepth 100000 in
theorem k_thruT (l : Launch) (D : va_G) (am : Nat → Nat) (cI cR cS cL : ClassId) (dg : Int64) (mem : zM) {L : Nat} (hL : L ≤ 60) (hln : mem 0 5 = nI L) {c0 : zM} {F0 : Nat} (hc : zCd (c0 104) L) (ht : ∀ i, i < L → mem 3 i = c0 104 i) (hy : zYes (c0 104) L) (hok : zOK c0) (hS : zS c0 (mem 1)) (hF0 : c0 87 1 = nI F0) : zMi l yX6_goesThrough wsX6_goesThrough ({ frames := 7, cells := 0, slots := 0, locals := 167 }) D (cK cI cR cS cL) [.ref (am 0), .int 1] (mw am cI dg mem) (fun r u => r = nI (zPlay L 60 0 c0).1 ∧ zF6 mem u ∧ zS (zPlay L 60 0 c0).2 (u 1) ∧ zOK (zPlay L 60 0 c0).2 ∧ (∀ i, 12 ≤ i → i ≠ 87 → i ≠ 103 → i ≠ 105 → (zPlay L 60 0 c0).2 i = c0 i) ∧ (zPlay L 60 0 c0).2 103 1 = c0 103 1 ∧ ∃ F1, F1 ≤ F0 + 180 ∧ (zPlay L 60 0 c0).2 87 1 = nI F1) (mw am cI dg) 0 0 := by
  refine zMiM.of (cc := cX6_goesThrough) (maxL := 5) (ret := (some .int)) (by decide +kernel) rfl (lv0 := [(0, .ref (am 0)), (1, .int 1)]) (Nat.le_of_ble_eq_true rfl) rfl ?_
  intro p e s m args below meth c E hZ hr hlocks hnm
  refine z_aload_n E dX6_goesThrough_0 rfl 0 rfl ?_
  refine z_iconst (v := 0) E dX6_goesThrough_1 (by decide) ?_
  refine z_put E 0 mw_obj (C := RX6) (T := TX6) (N := 16) rfl (fun _ h => List.mem_cons_of_mem _ (List.mem_append_right _ h)) tyX6 tyX6_ok nmX6 10 (by decide) (List.mem_of_getElem? (i := 1) (by decide +kernel)) rfl rfl rfl rfl (Nat.le_of_ble_eq_true rfl) (ws' := mw am cI dg (mset mem 0 10 0)) (ms_obj 10 (by decide) (by decide) rfl) dX6_goesThrough_2 ?_
  refine z_gm2 (fun m1 hm1 => ?_)
  refine z_aload_n E dX6_goesThrough_5 rfl 0 rfl ?_
  refine z_iconst (v := 0) E dX6_goesThrough_6 (by decide) ?_
  refine z_put E 0 mw_obj (C := RX6) (T := TX6) (N := 16) rfl (fun _ h => List.mem_cons_of_mem _ (List.mem_append_right _ h)) tyX6 tyX6_ok nmX6 11 (by decide) (List.mem_of_getElem? (i := 2) (by decide +kernel)) rfl rfl rfl rfl (Nat.le_of_ble_eq_true rfl) (ws' := mw am cI dg (mset m1 0 11 0)) (ms_obj 11 (by decide) (by decide) rfl) dX6_goesThrough_7 ?_
  refine z_gm2 (fun m2 hm2 => ?_)
  refine z_iconst (v := 0) E dX6_goesThrough_10 (by decide) ?_
  refine z_istore_n (lv' := [(2, .int 0), (0, .ref (am 0)), (1, .int 1)]) E dX6_goesThrough_11 rfl (by decide) rfl ?_
  refine z_iconst (v := 1) E dX6_goesThrough_12 (by decide) ?_
  refine z_istore_n (lv' := [(3, .int 1), (2, .int 0), (0, .ref (am 0)), (1, .int 1)]) E dX6_goesThrough_13 rfl (by decide) rfl ?_
  refine z_loop (σ := zM × zM × Int32 × Nat × Nat) (fun n y => zF6 mem y.1 ∧ zS y.2.1 (y.1 1) ∧ zOK y.2.1 ∧ (∀ i, 12 ≤ i → i ≠ 87 → i ≠ 103 → i ≠ 105 → y.2.1 i = c0 i) ∧ y.2.1 103 1 = c0 103 1 ∧ (∃ F1, F1 ≤ F0 + 3 * y.2.2.2.2 ∧ y.2.1 87 1 = nI F1) ∧ y.2.2.2.2 ≤ 60 ∧ ((y.2.2.1 = 1 ∧ y.1 0 10 = nI y.2.2.2.1 ∧ y.1 0 11 = 0 ∧ zIn (c0 104) L y.2.2.2.1 ∧ y.2.2.2.2 + n = 60 ∧ y.2.2.2.2 ≤ y.2.2.2.1 ∧ zPlay L 60 0 c0 = (y.2.2.2.2 + (zPlay L n y.2.2.2.1 y.2.1).1, (zPlay L n y.2.2.2.1 y.2.1).2)) ∨ (y.2.2.1 = 0 ∧ zPlay L 60 0 c0 = (y.2.2.2.2, y.2.1)))) (fun y => mw am cI dg y.1) (fun y => [(3, .int y.2.2.1), (2, .int (nI y.2.2.2.2)), (0, .ref (am 0)), (1, .int 1)]) 14 0 0 ?_ 60 (m2, c0, 1, 0, 0) ⟨by rw [hm2, hm1]; exact (zF6_10 _ _).trans (zF6_11 _ _), by show zS c0 (m2 1); rw [hm2, mset_ne _ _ _ (by decide), hm1, mset_ne _ _ _ (by decide)]; exact hS, hok, fun _ _ _ _ _ => rfl, rfl, ⟨F0, by show F0 ≤ F0 + 3 * 0; omega, hF0⟩, by show 0 ≤ 60; omega, Or.inl ⟨rfl, by show m2 0 10 = nI 0; rw [hm2, mset_ne2 _ _ (by decide), hm1, mset_at]; rfl, by show m2 0 11 = 0; rw [hm2, mset_at], zIn_0 _ L, by show 0 + 60 = 60; omega, by show 0 ≤ 0; omega, by show _ = (0 + _, _); rw [Nat.zero_add]⟩⟩ rfl rfl rfl rfl rfl
  rintro n ⟨m, c1, mo, P1, i1⟩ ⟨zf, hS1, hok1, keep, h103, ⟨F1, hF1, eF1⟩, hi60, hI⟩ ih
  dsimp only at zf hS1 hok1 keep h103 hF1 eF1 hi60 hI ⊢
  rcases hI with ⟨hmo, i10, i11, hin, hfu, hiP, hgo⟩ | ⟨hmo, hgo⟩
  · skip
    subst hmo
    have hP1 := hin.1
    have hPL := zYes_in hy hin
    have h104 : c1 104 = c0 104 := keep 104 (by omega) (by omega) (by omega) (by omega)
    have i5 : m 0 5 = nI L := (zf.2.2 5 (by omega)).trans hln
    have hin1 : zIn (c1 104) L P1 := by rw [h104]; exact hin
    have hy1 : zYes (c1 104) L := by rw [h104]; exact hy
    have hc1 : zCd (c1 104) L := by rw [h104]; exact hc
    have i3 : ∀ i, i < L → m 3 i = c1 104 i := fun i hi => by rw [zf.2.1, h104]; exact ht i hi
    obtain ⟨n, rfl⟩ : ∃ n1, n = n1 + 1 := ⟨n - 1, by omega⟩
    refine z_iload_n E dX6_goesThrough_14 rfl 0 rfl ?_
    refine z_if_eq_f (tgt := 109) E dX6_goesThrough_15 (by decide) (by decide) ?_
    refine z_aload_n E dX6_goesThrough_18 rfl 2 rfl ?_
    refine z_callVv E hZ (k_readPart l D am cI cR cS cL dg m (P := P1) (L := L) hP1 hL i10 i5 i11 (c0 := zCs (c1 104) L P1) (w1 := zCs (c1 104) L (P1 + 1)) (d0 := zCs (c1 104) L (P1 + 2)) (zCh_cs i3) (zCh_cs i3) (zCh_cs i3)) gX6_goesThrough_X6_readPart (n := 0) rfl rfl rfl (by decide +kernel) rfl ⟨(Nat.le_of_ble_eq_true rfl), (Nat.le_of_ble_eq_true rfl)⟩ (C := RX6) rfl 0 mw_obj (As := []) (rest := []) rfl (Nat.le_of_ble_eq_true rfl) ⟨(Nat.le_of_ble_eq_true rfl), (Nat.le_of_ble_eq_true rfl)⟩ dX6_goesThrough_19 (fun m3 hp => ?_)
    have zr1 : zRd m m3 := hp.1
    have zpt := zPart hc1 hP1 i3 hp
    clear hp
    rcases zpt with ⟨j11, k1, j10, hk1, hbd⟩ | ⟨j11, k1, j1, v1, j10, j12, j14, hop⟩
    · skip
      exact (zPK_bad (hy1.2 P1 hPL hin1.2.1) hk1 hbd).elim
    · skip
      have hk1 := hop.2.2.1
      have j5 : m3 0 5 = nI L := (zr1.2 5 (by omega)).trans i5
      have hend := zPK_end (hy1.2 P1 hPL hin1.2.1) hop
      obtain ⟨hrow, x4, x5, x3, hqn⟩ := zOp_np hop hend
      refine z_aload_n E dX6_goesThrough_22 rfl 2 rfl ?_
      refine z_get E 0 mw_obj (C := RX6) (T := TX6) (N := 16) rfl (fun _ h => List.mem_cons_of_mem _ (List.mem_append_right _ h)) 11 (by decide) (List.mem_of_getElem? (i := 2) (by decide +kernel)) rfl (v := .int 0) (congrArg (fun z : Int32 => some (Value.int z)) j11) dX6_goesThrough_23 ?_
      refine z_if_ne_f (tgt := 44) E dX6_goesThrough_26 (by decide) (by decide) ?_
      refine z_iload_n E dX6_goesThrough_29 rfl 3 rfl ?_
      refine z_if_eq_f (tgt := 40) E dX6_goesThrough_30 (by decide) (by decide) ?_
      refine z_aload_n E dX6_goesThrough_33 rfl 2 rfl ?_
      have okN : zOK (sNP c1 L P1) := zOK_eq hok1 (fun i hi => by unfold sNP; rw [mset_ne _ _ _ (by omega), mrow_ne _ _ (by omega)])
      have hSN : zS (sNP c1 L P1) (m3 1) := by rw [zr1.1 1 (by decide)]; exact zS_np hS1
      obtain ⟨pr, pu, hpe⟩ : ∃ a b, fPPj (sNP c1 L P1) j1 = (a, b) := ⟨_, _, rfl⟩
      refine z_callVi E hZ (k_doesPart l D am cI cR cS cL dg m3 okN hSN hrow j12 x4.symm (fun q => by rw [x5]; exact j14 (by rw [← x4]; exact q))) gX6_goesThrough_X6_doesPart (n := 0) rfl rfl rfl (by decide +kernel) rfl ⟨(Nat.le_of_ble_eq_true rfl), (Nat.le_of_ble_eq_true rfl)⟩ (C := RX6) rfl 0 mw_obj (As := []) (rest := []) rfl (Nat.le_of_ble_eq_true rfl) ⟨(Nat.le_of_ble_eq_true rfl), (Nat.le_of_ble_eq_true rfl)⟩ dX6_goesThrough_34 (fun r m4 hp => ?_)
      rw [hpe] at hp
      obtain ⟨hr1, fr2, hS2⟩ := hp
      rw [hr1]
      have k5 : m4 0 5 = nI L := (fr2.2.2 5 (by omega)).trans j5
      have k10 : m4 0 10 = nI (P1 + k1) := (fr2.2.2 10 (by omega)).trans j10
      have k11 : m4 0 11 = 0 := (fr2.2.2 11 (by omega)).trans j11
      have okU : zOK pu := by have := zOK_PP okN hrow; rw [hpe] at this; exact this
      have keepU : ∀ i, 12 ≤ i → i ≠ 87 → i ≠ 103 → i ≠ 105 → pu i = c0 i := fun i h1 h2 h3 h4 => by have hj := hrow.1; have := fPPj_ne (mem := sNP c1 L P1) (j := j1) (i := i) h2 (by omega) (by omega) (by omega); rw [hpe] at this; rw [show pu i = sNP c1 L P1 i from this]; unfold sNP; rw [mset_ne _ _ _ h3, mrow_ne _ _ h4]; exact keep i h1 h2 h3 h4
      have k103 : pu 103 1 = c0 103 1 := by have hj := hrow.1; have := fPPj_ne (mem := sNP c1 L P1) (j := j1) (i := 103) (by omega) (by omega) (by omega) (by omega); rw [hpe] at this; rw [show pu 103 = sNP c1 L P1 103 from this]; unfold sNP; rw [mset_ne2 _ _ (by decide), mrow_ne _ _ (by decide)]; exact h103
      obtain ⟨F2, hF2, eF2⟩ := fPPj_F okN hrow (F := F1) (by unfold sNP; rw [mset_ne _ _ _ (by decide), mrow_ne _ _ (by decide)]; exact eF1)
      rw [hpe] at eF2
      have f62 : zF6 mem m4 := (zf.trans zr1.f6).trans fr2.f6
      refine z_if_eq (tgt := 44) E dX6_goesThrough_37 (by decide) (fun c37 => ?_) (fun c37 => ?_)
      · skip
        refine z_iconst (v := 0) E dX6_goesThrough_44 (by decide) ?_
        refine z_istore_n (lv' := [(3, .int 0), (2, .int (nI i1)), (0, .ref (am 0)), (1, .int 1)]) E dX6_goesThrough_45 rfl (by decide) rfl ?_
        refine z_iload_n E dX6_goesThrough_46 rfl 1 rfl ?_
        refine z_iload_n E dX6_goesThrough_47 rfl 0 rfl ?_
        refine z_if_eq_t (tgt := 55) E dX6_goesThrough_48 (by decide) (by decide) ?_
        refine z_iconst (v := 0) E dX6_goesThrough_55 (by decide) ?_
        refine z_iadd E dX6_goesThrough_56 ?_
        refine z_istore_n (lv' := [(2, .int ((nI i1) + 0)), (3, .int 0), (0, .ref (am 0)), (1, .int 1)]) E dX6_goesThrough_57 rfl (by decide) rfl ?_
        refine z_iload_n E dX6_goesThrough_58 rfl 1 rfl ?_
        refine z_if_eq_t (tgt := 77) E dX6_goesThrough_59 (by decide) (by decide) ?_
        refine z_iconst (v := 0) E dX6_goesThrough_77 (by decide) ?_
        refine z_istore_n (lv' := [(3, .int 0), (2, .int ((nI i1) + 0)), (0, .ref (am 0)), (1, .int 1)]) E dX6_goesThrough_78 rfl (by decide) rfl ?_
        refine z_iload_n E dX6_goesThrough_79 rfl 0 rfl ?_
        refine z_if_eq_t (tgt := 14) E dX6_goesThrough_80 (by decide) (by decide) ?_
        refine z_eq (ws' := mw am cI dg m4) (lv' := [(3, .int 0), (2, .int (nI (i1))), (0, .ref (am 0)), (1, .int 1)]) (st' := []) rfl (by rw [Int32.add_zero]) rfl ?_
        have pu0 : pu = sNP c1 L P1 := by have q := fPPj_0 (c := sNP c1 L P1) (j := j1) (by rw [hpe]; exact c37); rw [hpe] at q; exact q
        have eF1p : pu 87 1 = nI F1 := by rw [pu0]; unfold sNP; rw [mset_ne _ _ _ (by decide), mrow_ne _ _ (by decide)]; exact eF1
        exact ih n (m4, pu, 0, 0, i1) (by omega) ⟨f62, hS2, okU, keepU, k103, ⟨F1, by show F1 ≤ F0 + 3 * (i1); omega, eF1p⟩, by show i1 ≤ 60; omega, Or.inr ⟨rfl, by rw [hgo, zPlay_no (f := n) hPL rfl x3 hrow.1 (by rw [hpe, show pr = 0 from c37])]; rfl⟩⟩
      · skip
        refine z_iconst (v := 1) E dX6_goesThrough_40 (by decide) ?_
        refine z_goto (tgt := 45) E dX6_goesThrough_41 (by decide) ?_
        refine z_istore_n (lv' := [(3, .int 1), (2, .int (nI i1)), (0, .ref (am 0)), (1, .int 1)]) E dX6_goesThrough_45 rfl (by decide) rfl ?_
        refine z_iload_n E dX6_goesThrough_46 rfl 1 rfl ?_
        refine z_iload_n E dX6_goesThrough_47 rfl 0 rfl ?_
        refine z_if_eq_f (tgt := 55) E dX6_goesThrough_48 (by decide) (by decide) ?_
        refine z_iconst (v := 1) E dX6_goesThrough_51 (by decide) ?_
        refine z_goto (tgt := 56) E dX6_goesThrough_52 (by decide) ?_
        refine z_iadd E dX6_goesThrough_56 ?_
        refine z_istore_n (lv' := [(2, .int ((nI i1) + 1)), (3, .int 1), (0, .ref (am 0)), (1, .int 1)]) E dX6_goesThrough_57 rfl (by decide) rfl ?_
        refine z_iload_n E dX6_goesThrough_58 rfl 1 rfl ?_
        refine z_if_eq_f (tgt := 77) E dX6_goesThrough_59 (by decide) (by decide) ?_
        refine z_aload_n E dX6_goesThrough_62 rfl 2 rfl ?_
        refine z_get E 0 mw_obj (C := RX6) (T := TX6) (N := 16) rfl (fun _ h => List.mem_cons_of_mem _ (List.mem_append_right _ h)) 10 (by decide) (List.mem_of_getElem? (i := 1) (by decide +kernel)) rfl (v := .int (nI (P1 + k1))) (congrArg (fun z : Int32 => some (Value.int z)) k10) dX6_goesThrough_63 ?_
        refine z_aload_n E dX6_goesThrough_66 rfl 2 rfl ?_
        refine z_get E 0 mw_obj (C := RX6) (T := TX6) (N := 16) rfl (fun _ h => List.mem_cons_of_mem _ (List.mem_append_right _ h)) 5 (by decide) (List.mem_of_getElem? (i := 3) (by decide +kernel)) rfl (v := .int (nI L)) (congrArg (fun z : Int32 => some (Value.int z)) k5) dX6_goesThrough_67 ?_
        refine z_icmp_ge (tgt := 77) E dX6_goesThrough_70 (by decide) (fun c70 => ?_) (fun c70 => ?_)
        · skip
          refine z_iconst (v := 0) E dX6_goesThrough_77 (by decide) ?_
          refine z_istore_n (lv' := [(3, .int 0), (2, .int ((nI i1) + 1)), (0, .ref (am 0)), (1, .int 1)]) E dX6_goesThrough_78 rfl (by decide) rfl ?_
          refine z_iload_n E dX6_goesThrough_79 rfl 0 rfl ?_
          refine z_if_eq_t (tgt := 14) E dX6_goesThrough_80 (by decide) (by decide) ?_
          refine z_eq (ws' := mw am cI dg m4) (lv' := [(3, .int 0), (2, .int (nI (i1 + 1))), (0, .ref (am 0)), (1, .int 1)]) (st' := []) rfl (by rw [← nI_1 i1]) rfl ?_
          have hPk : P1 + k1 = L := by have := (nI_leI (by omega) (by omega)).mp c70; omega
          exact ih n (m4, pu, 0, 0, i1 + 1) (by omega) ⟨f62, hS2, okU, keepU, k103, ⟨F2, by show F2 ≤ F0 + 3 * (i1 + 1); omega, eF2⟩, by show i1 + 1 ≤ 60; omega, Or.inr ⟨rfl, by rw [hgo, zPlay_go (f := n) hPL rfl x3 hrow.1 hpe c37, hqn, if_neg (by omega), zPlay_end (by omega)]⟩⟩
        · skip
          refine z_iconst (v := 1) E dX6_goesThrough_73 (by decide) ?_
          refine z_goto (tgt := 78) E dX6_goesThrough_74 (by decide) ?_
          refine z_istore_n (lv' := [(3, .int 1), (2, .int ((nI i1) + 1)), (0, .ref (am 0)), (1, .int 1)]) E dX6_goesThrough_78 rfl (by decide) rfl ?_
          refine z_iload_n E dX6_goesThrough_79 rfl 0 rfl ?_
          refine z_if_eq_f (tgt := 14) E dX6_goesThrough_80 (by decide) (by decide) ?_
          refine z_aload_n E dX6_goesThrough_83 rfl 2 rfl ?_
          refine z_bipush (v := 59) E dX6_goesThrough_84 (by decide) ?_
          refine z_bipush (v := 59) E dX6_goesThrough_86 (by decide) ?_
          have hlt : P1 + k1 < L := zklt (by omega) (by omega) c70
          have s3 : ∀ i, i < L → m4 3 i = (c1 104) i := fun i hi => by rw [fr2.2.1, zr1.1 3 (by decide)]; exact i3 i hi
          refine z_callVi E hZ (k_sign l D am cI cR cS cL dg m4 (P := P1 + k1) (L := L) (by omega) hL k10 k5 k11 59 59) gX6_goesThrough_X6_sign (n := 2) rfl rfl rfl (by decide +kernel) rfl ⟨(Nat.le_of_ble_eq_true rfl), (Nat.le_of_ble_eq_true rfl)⟩ (C := RX6) rfl 0 mw_obj (As := [.int 59, .int 59]) (rest := []) rfl (Nat.le_of_ble_eq_true rfl) ⟨(Nat.le_of_ble_eq_true rfl), (Nat.le_of_ble_eq_true rfl)⟩ dX6_goesThrough_88 (fun r u hp => ?_)
          obtain ⟨-, hpu⟩ := hp
          generalize hrr : r = rs0
          rw [hpu]
          have hch : zCh m4 (P1 + k1) L = (c1 104) (P1 + k1) := by unfold zCh; rw [if_pos hlt, s3 _ hlt]
          refine z_gm2 (fun m5 hm5 => ?_)
          have g59 : c1 104 (P1 + k1) = 59 := hend.resolve_left (by omega)
          have hb : m5 = mset m4 0 10 (nI (P1 + k1 + 1)) := by rw [hm5]; unfold sSign; rw [hch, g59, if_neg (by decide)]
          have t11 : m5 0 11 = 0 := by rw [hb, mset_ne2 _ _ (by decide)]; exact k11
          refine z_istore (lv' := [(4, .int rs0), (3, .int 1), (2, .int ((nI i1) + 1)), (0, .ref (am 0)), (1, .int 1)]) E dX6_goesThrough_91 (by decide) rfl ?_
          refine z_aload_n E dX6_goesThrough_93 rfl 3 rfl ?_
          refine z_get E 0 mw_obj (C := RX6) (T := TX6) (N := 16) rfl (fun _ h => List.mem_cons_of_mem _ (List.mem_append_right _ h)) 11 (by decide) (List.mem_of_getElem? (i := 2) (by decide +kernel)) rfl (v := .int 0) (congrArg (fun z : Int32 => some (Value.int z)) t11) dX6_goesThrough_94 ?_
          refine z_if_ne_f (tgt := 104) E dX6_goesThrough_97 (by decide) (by decide) ?_
          refine z_iconst (v := 1) E dX6_goesThrough_100 (by decide) ?_
          refine z_goto (tgt := 105) E dX6_goesThrough_101 (by decide) ?_
          refine z_istore_n (lv' := [(3, .int 1), (4, .int rs0), (2, .int ((nI i1) + 1)), (0, .ref (am 0)), (1, .int 1)]) E dX6_goesThrough_105 rfl (by decide) rfl ?_
          refine z_goto (tgt := 14) E dX6_goesThrough_106 (by decide) ?_
          refine z_lv [0, 2, 3, 4] (lv' := [(3, .int 1), (2, .int ((nI i1) + 1)), (0, .ref (am 0)), (1, .int 1)]) rfl ?_
          refine z_eq (ws' := mw am cI dg m5) (lv' := [(3, .int 1), (2, .int (nI (i1 + 1))), (0, .ref (am 0)), (1, .int 1)]) (st' := []) rfl (by rw [← nI_1 i1]) rfl ?_
          exact ih n (m5, pu, 1, P1 + k1 + 1, i1 + 1) (by omega) ⟨by rw [hb]; exact f62.trans (zF6_10 _ _), by show zS pu (m5 1); rw [hb, mset_ne _ _ _ (by decide)]; exact hS2, okU, keepU, k103, ⟨F2, by show F2 ≤ F0 + 3 * (i1 + 1); omega, eF2⟩, by show i1 + 1 ≤ 60; omega, Or.inl ⟨rfl, by show m5 0 10 = _; rw [hb, mset_at], t11, (by have hnx := zIn_next hin1 hop hlt g59; rw [h104] at hnx; exact hnx), by show i1 + 1 + n = 60; omega, by show i1 + 1 ≤ P1 + k1 + 1; omega, by rw [hgo, zPlay_go (f := n) hPL rfl x3 hrow.1 hpe c37, hqn, if_pos hlt]; exact zsw i1 _⟩⟩
  · skip
    subst hmo
    refine z_iload_n E dX6_goesThrough_14 rfl 0 rfl ?_
    refine z_if_eq_t (tgt := 109) E dX6_goesThrough_15 (by decide) (by decide) ?_
    refine z_iload_n E dX6_goesThrough_109 rfl 1 rfl ?_
    exact z_iretM E hr hlocks (m) rfl (by rw [hgo]; exact ⟨rfl, zf, hS1, hok1, keep, h103, F1, by omega, eF1⟩) (Nat.le_of_ble_eq_true rfl) (Nat.le_of_ble_eq_true rfl) dX6_goesThrough_110
