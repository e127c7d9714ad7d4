/-! a ladder, as the law sees it -/
set_option maxHeartbeats 8000000 in
set_option maxRecDepth 100000 in
theorem k_ladderSo (l : Launch) (D : va_G) (ad : Nat → Nat) (cI cR cS cL : ClassId) (mem : zM) (hl : l.stackTraces = false) {k : Nat} (hk : k < 4) (hok : zOK mem) (hin : ¬ rv mem k 7 = 0 → ¬ fStands (rv mem k) = 0) : zMi l yL_isLadderSo wsL_isLadderSo ({ frames := 8, cells := 0, slots := 0, locals := 136 }) D (cK cI cR cS cL) [.ref (ad 106), .int (nI k)] (cw ad cI cR cS mem) (fun r (_ : Unit) => r = 1) (fun _ => (cw ad cI cR cS mem)) 0 0 := by
  obtain ⟨hfd, pp, hpp⟩ := hok k hk
  have h7 := hpp.2.1
  have hpp3 := hpp.1
  obtain ⟨bb, hh, gg, ww, LL, MM, rr, V⟩ := rV_of hfd (rQ_of hpp)
  obtain ⟨lo, hi, H⟩ := rLH_of V
  refine zMiM.of (cc := cL_isLadderSo) (maxL := 10) (ret := (some .boolean)) (by decide +kernel) rfl (lv0 := [(0, .ref (ad 106)), (1, .int (nI k))]) (Nat.le_of_ble_eq_true rfl) rfl ?_
  intro p e s m args below meth c E hZ hr hlocks hnm
  refine z_aload_n E dL_isLadderSo_0 rfl 0 rfl ?_
  refine z_iload_n E dL_isLadderSo_1 rfl 1 rfl ?_
  refine z_iconst (v := 2) E dL_isLadderSo_2 (by decide) ?_
  refine z_callViN E hZ (k_force l D ad cI cR cS cL mem (c0 := 0) (s0 := 0) hl (nI k) 2  (fun E u h => zno (dFor2 zTr.rfl' hk) h)) gL_isLadderSo_X5_force (n := 2) rfl rfl rfl (by decide +kernel) rfl ⟨(Nat.le_of_ble_eq_true rfl), (Nat.le_of_ble_eq_true rfl)⟩ (C := RX5) rfl 106 cw_lad (As := [.int (nI k), .int 2]) (rest := []) rfl (Nat.le_of_ble_eq_true rfl) ⟨(Nat.le_of_ble_eq_true rfl), (Nat.le_of_ble_eq_true rfl)⟩ dL_isLadderSo_3 (fun E u h => zno (dFor2 zTr.rfl' hk) h) (fun r u hp => ?_)
  rw [(zyes (dFor2 zTr.rfl' hk) hp).1, (zyes (dFor2 zTr.rfl' hk) hp).2]
  refine z_istore_n (lv' := [(2, .int (fForces (rv mem k))), (0, .ref (ad 106)), (1, .int (nI k))]) E dL_isLadderSo_6 rfl (by decide) rfl ?_
  refine z_aload_n E dL_isLadderSo_7 rfl 1 rfl ?_
  refine z_iload_n E dL_isLadderSo_8 rfl 2 rfl ?_
  refine z_iconst (v := 2) E dL_isLadderSo_9 (by decide) ?_
  refine z_callViN E hZ (k_ladder l D ad cI cR cS cL mem (c0 := 0) (s0 := 0) hl (nI k) 2  (fun E u h => zno (dLad2 zTr.rfl' hk) h)) gL_isLadderSo_X5_ladder (n := 2) rfl rfl rfl (by decide +kernel) rfl ⟨(Nat.le_of_ble_eq_true rfl), (Nat.le_of_ble_eq_true rfl)⟩ (C := RX5) rfl 106 cw_lad (As := [.int (nI k), .int 2]) (rest := []) rfl (Nat.le_of_ble_eq_true rfl) ⟨(Nat.le_of_ble_eq_true rfl), (Nat.le_of_ble_eq_true rfl)⟩ dL_isLadderSo_10 (fun E u h => zno (dLad2 zTr.rfl' hk) h) (fun r u hp => ?_)
  rw [(zyes (dLad2 zTr.rfl' hk) hp).1, (zyes (dLad2 zTr.rfl' hk) hp).2]
  refine z_istore_n (lv' := [(3, .int ((rv mem k) 2)), (2, .int (fForces (rv mem k))), (0, .ref (ad 106)), (1, .int (nI k))]) E dL_isLadderSo_13 rfl (by decide) rfl ?_
  refine z_iconst (v := 5) E dL_isLadderSo_14 (by decide) ?_
  refine z_aload_n E dL_isLadderSo_15 rfl 2 rfl ?_
  refine z_iload_n E dL_isLadderSo_16 rfl 3 rfl ?_
  refine z_iconst (v := 2) E dL_isLadderSo_17 (by decide) ?_
  refine z_callViN E hZ (k_ladder l D ad cI cR cS cL mem (c0 := 0) (s0 := 0) hl (nI k) 2  (fun E u h => zno (dLad2 zTr.rfl' hk) h)) gL_isLadderSo_X5_ladder (n := 2) rfl rfl rfl (by decide +kernel) rfl ⟨(Nat.le_of_ble_eq_true rfl), (Nat.le_of_ble_eq_true rfl)⟩ (C := RX5) rfl 106 cw_lad (As := [.int (nI k), .int 2]) (rest := [.int 5]) rfl (Nat.le_of_ble_eq_true rfl) ⟨(Nat.le_of_ble_eq_true rfl), (Nat.le_of_ble_eq_true rfl)⟩ dL_isLadderSo_18 (fun E u h => zno (dLad2 zTr.rfl' hk) h) (fun r u hp => ?_)
  rw [(zyes (dLad2 zTr.rfl' hk) hp).1, (zyes (dLad2 zTr.rfl' hk) hp).2]
  refine z_imul E dL_isLadderSo_21 ?_
  refine z_istore (lv' := [(4, .int (5 * ((rv mem k) 2))), (3, .int ((rv mem k) 2)), (2, .int (fForces (rv mem k))), (0, .ref (ad 106)), (1, .int (nI k))]) E dL_isLadderSo_22 (by decide) rfl ?_
  refine z_iconst (v := 0) E dL_isLadderSo_24 (by decide) ?_
  refine z_istore (lv' := [(5, .int 0), (4, .int (5 * ((rv mem k) 2))), (3, .int ((rv mem k) 2)), (2, .int (fForces (rv mem k))), (0, .ref (ad 106)), (1, .int (nI k))]) E dL_isLadderSo_25 (by decide) rfl ?_
  refine z_loop (σ := Nat) (fun n y => y + n = pp) (fun _ => (cw ad cI cR cS mem)) (fun y => [(5, .int (nI y)), (4, .int (fMoN (rv mem k) y)), (3, .int (fLdN (rv mem k) y)), (2, .int (fForces (rv mem k))), (0, .ref (ad 106)), (1, .int (nI k))]) 27 0 0 ?_ pp 0 (Nat.zero_add _) rfl rfl rfl rfl rfl
  rintro n27 t hi27 ih27
  refine z_iload E dL_isLadderSo_27 0 rfl ?_
  refine z_aload_n E dL_isLadderSo_29 rfl 4 rfl ?_
  refine z_iload_n E dL_isLadderSo_30 rfl 5 rfl ?_
  refine z_bipush (v := 6) E dL_isLadderSo_31 (by decide) ?_
  refine z_callViN E hZ (k_ladder l D ad cI cR cS cL mem (c0 := 0) (s0 := 0) hl (nI k) 6  (fun E u h => zno (dLad6 zTr.rfl' hk) h)) gL_isLadderSo_X5_ladder (n := 2) rfl rfl rfl (by decide +kernel) rfl ⟨(Nat.le_of_ble_eq_true rfl), (Nat.le_of_ble_eq_true rfl)⟩ (C := RX5) rfl 106 cw_lad (As := [.int (nI k), .int 6]) (rest := [.int (nI t)]) rfl (Nat.le_of_ble_eq_true rfl) ⟨(Nat.le_of_ble_eq_true rfl), (Nat.le_of_ble_eq_true rfl)⟩ dL_isLadderSo_33 (fun E u h => zno (dLad6 zTr.rfl' hk) h) (fun r u hp => ?_)
  rw [(zyes (dLad6 zTr.rfl' hk) hp).1, (zyes (dLad6 zTr.rfl' hk) hp).2]
  rw [h7]
  refine z_icmp_ge (tgt := 78) E dL_isLadderSo_36 (by decide) (fun c36 => ?_) (fun c36 => ?_)
  · skip
    have htp : t = pp := by have := (nI_leI (a := pp) (b := t) (by omega) (by omega)).mp c36; omega
    refine z_eq (ws' := (cw ad cI cR cS mem)) (lv' := [(5, .int (nI t)), (4, .int (fMoN (rv mem k) pp)), (3, .int (fLoad (rv mem k))), (2, .int (fForces (rv mem k))), (0, .ref (ad 106)), (1, .int (nI k))]) (st' := []) rfl (by rw [htp, fLdN_all hpp]) rfl ?_
    by_cases hst : fStands (rv mem k) = 0
    · skip
      have f0 := zFo_not H hst
      have p0 : (rv mem k) 7 = 0 := Decidable.byContradiction (fun q => hin q hst)
      refine z_iload_n E dL_isLadderSo_78 rfl 2 rfl ?_
      refine z_aload_n E dL_isLadderSo_79 rfl 4 rfl ?_
      refine z_iload_n E dL_isLadderSo_80 rfl 5 rfl ?_
      refine z_bipush (v := 7) E dL_isLadderSo_81 (by decide) ?_
      refine z_callViN E hZ (k_ladder l D ad cI cR cS cL mem (c0 := 0) (s0 := 0) hl (nI k) 7  (fun E u h => zno (dLad7 zTr.rfl' hk) h)) gL_isLadderSo_X5_ladder (n := 2) rfl rfl rfl (by decide +kernel) rfl ⟨(Nat.le_of_ble_eq_true rfl), (Nat.le_of_ble_eq_true rfl)⟩ (C := RX5) rfl 106 cw_lad (As := [.int (nI k), .int 7]) (rest := [.int (fLoad (rv mem k))]) rfl (Nat.le_of_ble_eq_true rfl) ⟨(Nat.le_of_ble_eq_true rfl), (Nat.le_of_ble_eq_true rfl)⟩ dL_isLadderSo_83 (fun E u h => zno (dLad7 zTr.rfl' hk) h) (fun r u hp => ?_)
      rw [(zyes (dLad7 zTr.rfl' hk) hp).1, (zyes (dLad7 zTr.rfl' hk) hp).2]
      refine z_icmp_ne_f (tgt := 158) E dL_isLadderSo_86 (by decide) rfl ?_
      refine z_iload E dL_isLadderSo_89 1 rfl ?_
      refine z_aload_n E dL_isLadderSo_91 rfl 4 rfl ?_
      refine z_iload_n E dL_isLadderSo_92 rfl 5 rfl ?_
      refine z_iconst (v := 0) E dL_isLadderSo_93 (by decide) ?_
      refine z_callViN E hZ (k_ladder l D ad cI cR cS cL mem (c0 := 0) (s0 := 0) hl (nI k) 0  (fun E u h => zno (dLad0 zTr.rfl' hk) h)) gL_isLadderSo_X5_ladder (n := 2) rfl rfl rfl (by decide +kernel) rfl ⟨(Nat.le_of_ble_eq_true rfl), (Nat.le_of_ble_eq_true rfl)⟩ (C := RX5) rfl 106 cw_lad (As := [.int (nI k), .int 0]) (rest := [.int (fMoN (rv mem k) pp)]) rfl (Nat.le_of_ble_eq_true rfl) ⟨(Nat.le_of_ble_eq_true rfl), (Nat.le_of_ble_eq_true rfl)⟩ dL_isLadderSo_94 (fun E u h => zno (dLad0 zTr.rfl' hk) h) (fun r u hp => ?_)
      rw [(zyes (dLad0 zTr.rfl' hk) hp).1, (zyes (dLad0 zTr.rfl' hk) hp).2]
      refine z_imul E dL_isLadderSo_97 ?_
      refine z_aload_n E dL_isLadderSo_98 rfl 4 rfl ?_
      refine z_iload_n E dL_isLadderSo_99 rfl 5 rfl ?_
      refine z_bipush (v := 8) E dL_isLadderSo_100 (by decide) ?_
      refine z_callViN E hZ (k_ladder l D ad cI cR cS cL mem (c0 := 0) (s0 := 0) hl (nI k) 8  (fun E u h => zno (dLad8 zTr.rfl' hk) h)) gL_isLadderSo_X5_ladder (n := 2) rfl rfl rfl (by decide +kernel) rfl ⟨(Nat.le_of_ble_eq_true rfl), (Nat.le_of_ble_eq_true rfl)⟩ (C := RX5) rfl 106 cw_lad (As := [.int (nI k), .int 8]) (rest := [.int ((fMoN (rv mem k) pp) * ((rv mem k) 0))]) rfl (Nat.le_of_ble_eq_true rfl) ⟨(Nat.le_of_ble_eq_true rfl), (Nat.le_of_ble_eq_true rfl)⟩ dL_isLadderSo_102 (fun E u h => zno (dLad8 zTr.rfl' hk) h) (fun r u hp => ?_)
      rw [(zyes (dLad8 zTr.rfl' hk) hp).1, (zyes (dLad8 zTr.rfl' hk) hp).2]
      refine z_icmp_ne_f (tgt := 158) E dL_isLadderSo_105 (by decide) (fMoN_all hpp) ?_
      refine z_iload_n E dL_isLadderSo_108 rfl 3 rfl ?_
      refine z_if_le_t (tgt := 116) E dL_isLadderSo_109 (by decide) (by rw [f0]; decide) ?_
      refine z_iconst (v := 0) E dL_isLadderSo_116 (by decide) ?_
      refine z_aload_n E dL_isLadderSo_117 rfl 4 rfl ?_
      refine z_iload_n E dL_isLadderSo_118 rfl 5 rfl ?_
      refine z_bipush (v := 10) E dL_isLadderSo_119 (by decide) ?_
      refine z_callViN E hZ (k_ladder l D ad cI cR cS cL mem (c0 := 0) (s0 := 0) hl (nI k) 10  (fun E u h => zno (dLad10 zTr.rfl' hk) h)) gL_isLadderSo_X5_ladder (n := 2) rfl rfl rfl (by decide +kernel) rfl ⟨(Nat.le_of_ble_eq_true rfl), (Nat.le_of_ble_eq_true rfl)⟩ (C := RX5) rfl 106 cw_lad (As := [.int (nI k), .int 10]) (rest := [.int 0]) rfl (Nat.le_of_ble_eq_true rfl) ⟨(Nat.le_of_ble_eq_true rfl), (Nat.le_of_ble_eq_true rfl)⟩ dL_isLadderSo_121 (fun E u h => zno (dLad10 zTr.rfl' hk) h) (fun r u hp => ?_)
      rw [(zyes (dLad10 zTr.rfl' hk) hp).1, (zyes (dLad10 zTr.rfl' hk) hp).2]
      refine z_iconst (v := 1) E dL_isLadderSo_124 (by decide) ?_
      refine z_icmp_ne_t (tgt := 132) E dL_isLadderSo_125 (by decide) (by rw [hst]; decide) ?_
      refine z_iconst (v := 0) E dL_isLadderSo_132 (by decide) ?_
      refine z_icmp_ne_f (tgt := 158) E dL_isLadderSo_133 (by decide) (by decide) ?_
      refine z_aload_n E dL_isLadderSo_136 rfl 4 rfl ?_
      refine z_iload_n E dL_isLadderSo_137 rfl 5 rfl ?_
      refine z_bipush (v := 6) E dL_isLadderSo_138 (by decide) ?_
      refine z_callViN E hZ (k_ladder l D ad cI cR cS cL mem (c0 := 0) (s0 := 0) hl (nI k) 6  (fun E u h => zno (dLad6 zTr.rfl' hk) h)) gL_isLadderSo_X5_ladder (n := 2) rfl rfl rfl (by decide +kernel) rfl ⟨(Nat.le_of_ble_eq_true rfl), (Nat.le_of_ble_eq_true rfl)⟩ (C := RX5) rfl 106 cw_lad (As := [.int (nI k), .int 6]) (rest := []) rfl (Nat.le_of_ble_eq_true rfl) ⟨(Nat.le_of_ble_eq_true rfl), (Nat.le_of_ble_eq_true rfl)⟩ dL_isLadderSo_140 (fun E u h => zno (dLad6 zTr.rfl' hk) h) (fun r u hp => ?_)
      rw [(zyes (dLad6 zTr.rfl' hk) hp).1, (zyes (dLad6 zTr.rfl' hk) hp).2]
      refine z_if_eq_t (tgt := 150) E dL_isLadderSo_143 (by decide) p0 ?_
      refine z_iload_n E dL_isLadderSo_150 rfl 3 rfl ?_
      refine z_if_lt_f (tgt := 158) E dL_isLadderSo_151 (by decide) (by rw [f0]; decide) ?_
      refine z_iconst (v := 1) E dL_isLadderSo_154 (by decide) ?_
      refine z_goto (tgt := 159) E dL_isLadderSo_155 (by decide) ?_
      refine z_istore (lv' := [(5, .int 1), (4, .int (fMoN (rv mem k) pp)), (3, .int (fLoad (rv mem k))), (2, .int (fForces (rv mem k))), (0, .ref (ad 106)), (1, .int (nI k))]) E dL_isLadderSo_159 (by decide) rfl ?_
      refine z_iconst (v := 0) E dL_isLadderSo_161 (by decide) ?_
      refine z_istore (lv' := [(6, .int 0), (5, .int 1), (4, .int (fMoN (rv mem k) pp)), (3, .int (fLoad (rv mem k))), (2, .int (fForces (rv mem k))), (0, .ref (ad 106)), (1, .int (nI k))]) E dL_isLadderSo_162 (by decide) rfl ?_
      refine z_sipush (v := -1000) E dL_isLadderSo_164 (by decide) ?_
      refine z_istore (lv' := [(7, .int (-1000)), (6, .int 0), (5, .int 1), (4, .int (fMoN (rv mem k) pp)), (3, .int (fLoad (rv mem k))), (2, .int (fForces (rv mem k))), (0, .ref (ad 106)), (1, .int (nI k))]) E dL_isLadderSo_167 (by decide) rfl ?_
      refine z_loop (σ := Nat) (fun n y => y + n = 2001) (fun _ => (cw ad cI cR cS mem)) (fun y => [(7, .int (zF y)), (6, .int (nI (zHc (rv mem k) y))), (5, .int 1), (4, .int (fMoN (rv mem k) pp)), (3, .int (fLoad (rv mem k))), (2, .int (fForces (rv mem k))), (0, .ref (ad 106)), (1, .int (nI k))]) 169 0 0 ?_ 2001 0 (Nat.zero_add _) rfl (by rw [zF_0]; rfl) rfl rfl rfl
      rintro n169 i hi169 ih169
      refine z_iload E dL_isLadderSo_169 0 rfl ?_
      refine z_sipush (v := 1000) E dL_isLadderSo_171 (by decide) ?_
      refine z_icmp_gt (tgt := 203) E dL_isLadderSo_174 (by decide) (fun c174 => ?_) (fun c174 => ?_)
      · skip
        have h2001 : i = 2001 := by have := (zF_gt (i := i) (by omega)).mp c174; omega
        refine z_eq (ws' := (cw ad cI cR cS mem)) (lv' := [(7, .int (zF i)), (6, .int (fForces (rv mem k))), (5, .int 1), (4, .int (fMoN (rv mem k) pp)), (3, .int (fLoad (rv mem k))), (2, .int (fForces (rv mem k))), (0, .ref (ad 106)), (1, .int (nI k))]) (st' := []) rfl (by rw [h2001, zHc_all H]) rfl ?_
        refine z_iload_n E dL_isLadderSo_203 rfl 5 rfl ?_
        refine z_if_ne_f (tgt := 253) E dL_isLadderSo_204 (by decide) f0 ?_
        refine z_iload E dL_isLadderSo_207 2 rfl ?_
        refine z_if_eq_f (tgt := 251) E dL_isLadderSo_209 (by decide) (by decide) ?_
        refine z_iload E dL_isLadderSo_212 1 rfl ?_
        refine z_if_ne_f (tgt := 251) E dL_isLadderSo_214 (by decide) f0 ?_
        refine z_aload_n E dL_isLadderSo_217 rfl 6 rfl ?_
        refine z_iload_n E dL_isLadderSo_218 rfl 7 rfl ?_
        refine z_iconst (v := 0) E dL_isLadderSo_219 (by decide) ?_
        refine z_callViN E hZ (k_force l D ad cI cR cS cL mem (c0 := 0) (s0 := 0) hl (nI k) 0  (fun E u h => zno (dFor0 zTr.rfl' hk) h)) gL_isLadderSo_X5_force (n := 2) rfl rfl rfl (by decide +kernel) rfl ⟨(Nat.le_of_ble_eq_true rfl), (Nat.le_of_ble_eq_true rfl)⟩ (C := RX5) rfl 106 cw_lad (As := [.int (nI k), .int 0]) (rest := []) rfl (Nat.le_of_ble_eq_true rfl) ⟨(Nat.le_of_ble_eq_true rfl), (Nat.le_of_ble_eq_true rfl)⟩ dL_isLadderSo_220 (fun E u h => zno (dFor0 zTr.rfl' hk) h) (fun r u hp => ?_)
        rw [(zyes (dFor0 zTr.rfl' hk) hp).1, (zyes (dFor0 zTr.rfl' hk) hp).2]
        refine z_iconst (v := -1) E dL_isLadderSo_223 (by decide) ?_
        refine z_icmp_ne_f (tgt := 251) E dL_isLadderSo_224 (by decide) (if_pos hst) ?_
        refine z_aload_n E dL_isLadderSo_227 rfl 6 rfl ?_
        refine z_iload_n E dL_isLadderSo_228 rfl 7 rfl ?_
        refine z_iconst (v := 3) E dL_isLadderSo_229 (by decide) ?_
        refine z_callViN E hZ (k_force l D ad cI cR cS cL mem (c0 := 0) (s0 := 0) hl (nI k) 3  (fun E u h => zno (dFor3 zTr.rfl' hk) h)) gL_isLadderSo_X5_force (n := 2) rfl rfl rfl (by decide +kernel) rfl ⟨(Nat.le_of_ble_eq_true rfl), (Nat.le_of_ble_eq_true rfl)⟩ (C := RX5) rfl 106 cw_lad (As := [.int (nI k), .int 3]) (rest := []) rfl (Nat.le_of_ble_eq_true rfl) ⟨(Nat.le_of_ble_eq_true rfl), (Nat.le_of_ble_eq_true rfl)⟩ dL_isLadderSo_230 (fun E u h => zno (dFor3 zTr.rfl' hk) h) (fun r u hp => ?_)
        rw [(zyes (dFor3 zTr.rfl' hk) hp).1, (zyes (dFor3 zTr.rfl' hk) hp).2]
        refine z_iconst (v := -1) E dL_isLadderSo_233 (by decide) ?_
        refine z_icmp_ne_f (tgt := 251) E dL_isLadderSo_234 (by decide) (if_pos hst) ?_
        refine z_aload_n E dL_isLadderSo_237 rfl 6 rfl ?_
        refine z_iload_n E dL_isLadderSo_238 rfl 7 rfl ?_
        refine z_iconst (v := 5) E dL_isLadderSo_239 (by decide) ?_
        refine z_callViN E hZ (k_force l D ad cI cR cS cL mem (c0 := 0) (s0 := 0) hl (nI k) 5  (fun E u h => zno (dFor5 zTr.rfl' hk) h)) gL_isLadderSo_X5_force (n := 2) rfl rfl rfl (by decide +kernel) rfl ⟨(Nat.le_of_ble_eq_true rfl), (Nat.le_of_ble_eq_true rfl)⟩ (C := RX5) rfl 106 cw_lad (As := [.int (nI k), .int 5]) (rest := []) rfl (Nat.le_of_ble_eq_true rfl) ⟨(Nat.le_of_ble_eq_true rfl), (Nat.le_of_ble_eq_true rfl)⟩ dL_isLadderSo_240 (fun E u h => zno (dFor5 zTr.rfl' hk) h) (fun r u hp => ?_)
        rw [(zyes (dFor5 zTr.rfl' hk) hp).1, (zyes (dFor5 zTr.rfl' hk) hp).2]
        refine z_iconst (v := -1) E dL_isLadderSo_243 (by decide) ?_
        refine z_icmp_ne_f (tgt := 251) E dL_isLadderSo_244 (by decide) (if_pos hst) ?_
        refine z_iconst (v := 1) E dL_isLadderSo_247 (by decide) ?_
        refine z_goto (tgt := 252) E dL_isLadderSo_248 (by decide) ?_
        exact z_izretM E hr hlocks (()) rfl rfl rfl (Nat.le_of_ble_eq_true rfl) (Nat.le_of_ble_eq_true rfl) dL_isLadderSo_252
      · skip
        have hi2 : i ≤ 2000 := by have := mt (zF_gt (i := i) (by omega)).mpr c174; omega
        refine z_iload E dL_isLadderSo_177 1 rfl ?_
        refine z_aload_n E dL_isLadderSo_179 rfl 6 rfl ?_
        refine z_iload_n E dL_isLadderSo_180 rfl 7 rfl ?_
        refine z_iload E dL_isLadderSo_181 0 rfl ?_
        refine z_callViN E hZ (k_held l D ad cI cR cS cL mem (c0 := 0) (s0 := 0) hl (nI k) (zF i)  (fun E u h => zno (dHeld (m := mem) hk (f := zF i) (zF_in (by omega))) h)) gL_isLadderSo_X5_held (n := 2) rfl rfl rfl (by decide +kernel) rfl ⟨(Nat.le_of_ble_eq_true rfl), (Nat.le_of_ble_eq_true rfl)⟩ (C := RX5) rfl 106 cw_lad (As := [.int (nI k), .int (zF i)]) (rest := [.int (nI (zHc (rv mem k) i))]) rfl (Nat.le_of_ble_eq_true rfl) ⟨(Nat.le_of_ble_eq_true rfl), (Nat.le_of_ble_eq_true rfl)⟩ dL_isLadderSo_183 (fun E u h => zno (dHeld (m := mem) hk (f := zF i) (zF_in (by omega))) h) (fun r u hp => ?_)
        rw [(zyes (dHeld (m := mem) hk (f := zF i) (zF_in (by omega))) hp).1, (zyes (dHeld (m := mem) hk (f := zF i) (zF_in (by omega))) hp).2]
        refine z_join (fun v194 => v194 = if fWGW (rv mem k) (zF i) = 0 then (1 : Int32) else 0) (pc2 := 194) (c2 := 0) (s2 := 0) (lv2 := (fun _ => [(7, .int (zF i)), (6, .int (nI (zHc (rv mem k) i))), (5, .int 1), (4, .int (fMoN (rv mem k) pp)), (3, .int (fLoad (rv mem k))), (2, .int (fForces (rv mem k))), (0, .ref (ad 106)), (1, .int (nI k))])) (st2 := (fun v194 => [.int v194, .int (nI (zHc (rv mem k) i))])) (fun v194 hv194 => ?_) (fun J194 => ?_)
        · subst hv194
          refine z_iadd E dL_isLadderSo_194 ?_
          refine z_istore (lv' := [(6, .int ((nI (zHc (rv mem k) i)) + (if fWGW (rv mem k) (zF i) = 0 then (1 : Int32) else 0))), (7, .int (zF i)), (5, .int 1), (4, .int (fMoN (rv mem k) pp)), (3, .int (fLoad (rv mem k))), (2, .int (fForces (rv mem k))), (0, .ref (ad 106)), (1, .int (nI k))]) E dL_isLadderSo_195 (by decide) rfl ?_
          refine z_iinc (v := zF i + 1) (lv' := [(7, .int (zF i + 1)), (6, .int ((nI (zHc (rv mem k) i)) + (if fWGW (rv mem k) (zF i) = 0 then (1 : Int32) else 0))), (5, .int 1), (4, .int (fMoN (rv mem k) pp)), (3, .int (fLoad (rv mem k))), (2, .int (fForces (rv mem k))), (0, .ref (ad 106)), (1, .int (nI k))]) E dL_isLadderSo_197 (q := 1) rfl rfl (by decide) rfl ?_
          refine z_goto (tgt := 169) E dL_isLadderSo_200 (by decide) ?_
          refine z_eq (ws' := (cw ad cI cR cS mem)) (lv' := [(7, .int (zF (i + 1))), (6, .int (nI (zHc (rv mem k) (i + 1)))), (5, .int 1), (4, .int (fMoN (rv mem k) pp)), (3, .int (fLoad (rv mem k))), (2, .int (fForces (rv mem k))), (0, .ref (ad 106)), (1, .int (nI k))]) (st' := []) rfl (by rw [← zF_s (show i ≤ 2900 by omega), ← zHc_s]) rfl ?_
          exact ih169 (n169 - 1) (i + 1) (by omega) (by omega)
        · skip
          refine z_if_ne (tgt := 193) E dL_isLadderSo_186 (by decide) (fun c186 => ?_) (fun c186 => ?_)
          · skip
            refine z_iconst (v := 0) E dL_isLadderSo_193 (by decide) ?_
            exact J194 _ (if_neg c186).symm
          · skip
            refine z_iconst (v := 1) E dL_isLadderSo_189 (by decide) ?_
            refine z_goto (tgt := 194) E dL_isLadderSo_190 (by decide) ?_
            exact J194 _ (if_pos c186).symm
    · skip
      obtain ⟨⟨b1, b2, b3⟩, b4, ⟨b5, b6, b7⟩, ⟨b8, b9⟩, ⟨b10, b11⟩, ⟨b12, b13, b14⟩, ⟨b15, b16⟩, b17, b18, b19, b20⟩ := zFo_of V H hst
      have s1 := fStands_ne _ hst
      refine z_iload_n E dL_isLadderSo_78 rfl 2 rfl ?_
      refine z_aload_n E dL_isLadderSo_79 rfl 4 rfl ?_
      refine z_iload_n E dL_isLadderSo_80 rfl 5 rfl ?_
      refine z_bipush (v := 7) E dL_isLadderSo_81 (by decide) ?_
      refine z_callViN E hZ (k_ladder l D ad cI cR cS cL mem (c0 := 0) (s0 := 0) hl (nI k) 7  (fun E u h => zno (dLad7 zTr.rfl' hk) h)) gL_isLadderSo_X5_ladder (n := 2) rfl rfl rfl (by decide +kernel) rfl ⟨(Nat.le_of_ble_eq_true rfl), (Nat.le_of_ble_eq_true rfl)⟩ (C := RX5) rfl 106 cw_lad (As := [.int (nI k), .int 7]) (rest := [.int (fLoad (rv mem k))]) rfl (Nat.le_of_ble_eq_true rfl) ⟨(Nat.le_of_ble_eq_true rfl), (Nat.le_of_ble_eq_true rfl)⟩ dL_isLadderSo_83 (fun E u h => zno (dLad7 zTr.rfl' hk) h) (fun r u hp => ?_)
      rw [(zyes (dLad7 zTr.rfl' hk) hp).1, (zyes (dLad7 zTr.rfl' hk) hp).2]
      refine z_icmp_ne_f (tgt := 158) E dL_isLadderSo_86 (by decide) rfl ?_
      refine z_iload E dL_isLadderSo_89 1 rfl ?_
      refine z_aload_n E dL_isLadderSo_91 rfl 4 rfl ?_
      refine z_iload_n E dL_isLadderSo_92 rfl 5 rfl ?_
      refine z_iconst (v := 0) E dL_isLadderSo_93 (by decide) ?_
      refine z_callViN E hZ (k_ladder l D ad cI cR cS cL mem (c0 := 0) (s0 := 0) hl (nI k) 0  (fun E u h => zno (dLad0 zTr.rfl' hk) h)) gL_isLadderSo_X5_ladder (n := 2) rfl rfl rfl (by decide +kernel) rfl ⟨(Nat.le_of_ble_eq_true rfl), (Nat.le_of_ble_eq_true rfl)⟩ (C := RX5) rfl 106 cw_lad (As := [.int (nI k), .int 0]) (rest := [.int (fMoN (rv mem k) pp)]) rfl (Nat.le_of_ble_eq_true rfl) ⟨(Nat.le_of_ble_eq_true rfl), (Nat.le_of_ble_eq_true rfl)⟩ dL_isLadderSo_94 (fun E u h => zno (dLad0 zTr.rfl' hk) h) (fun r u hp => ?_)
      rw [(zyes (dLad0 zTr.rfl' hk) hp).1, (zyes (dLad0 zTr.rfl' hk) hp).2]
      refine z_imul E dL_isLadderSo_97 ?_
      refine z_aload_n E dL_isLadderSo_98 rfl 4 rfl ?_
      refine z_iload_n E dL_isLadderSo_99 rfl 5 rfl ?_
      refine z_bipush (v := 8) E dL_isLadderSo_100 (by decide) ?_
      refine z_callViN E hZ (k_ladder l D ad cI cR cS cL mem (c0 := 0) (s0 := 0) hl (nI k) 8  (fun E u h => zno (dLad8 zTr.rfl' hk) h)) gL_isLadderSo_X5_ladder (n := 2) rfl rfl rfl (by decide +kernel) rfl ⟨(Nat.le_of_ble_eq_true rfl), (Nat.le_of_ble_eq_true rfl)⟩ (C := RX5) rfl 106 cw_lad (As := [.int (nI k), .int 8]) (rest := [.int ((fMoN (rv mem k) pp) * ((rv mem k) 0))]) rfl (Nat.le_of_ble_eq_true rfl) ⟨(Nat.le_of_ble_eq_true rfl), (Nat.le_of_ble_eq_true rfl)⟩ dL_isLadderSo_102 (fun E u h => zno (dLad8 zTr.rfl' hk) h) (fun r u hp => ?_)
      rw [(zyes (dLad8 zTr.rfl' hk) hp).1, (zyes (dLad8 zTr.rfl' hk) hp).2]
      refine z_icmp_ne_f (tgt := 158) E dL_isLadderSo_105 (by decide) (fMoN_all hpp) ?_
      refine z_iload_n E dL_isLadderSo_108 rfl 3 rfl ?_
      refine z_if_le_f (tgt := 116) E dL_isLadderSo_109 (by decide) b1 ?_
      refine z_iconst (v := 1) E dL_isLadderSo_112 (by decide) ?_
      refine z_goto (tgt := 117) E dL_isLadderSo_113 (by decide) ?_
      refine z_aload_n E dL_isLadderSo_117 rfl 4 rfl ?_
      refine z_iload_n E dL_isLadderSo_118 rfl 5 rfl ?_
      refine z_bipush (v := 10) E dL_isLadderSo_119 (by decide) ?_
      refine z_callViN E hZ (k_ladder l D ad cI cR cS cL mem (c0 := 0) (s0 := 0) hl (nI k) 10  (fun E u h => zno (dLad10 zTr.rfl' hk) h)) gL_isLadderSo_X5_ladder (n := 2) rfl rfl rfl (by decide +kernel) rfl ⟨(Nat.le_of_ble_eq_true rfl), (Nat.le_of_ble_eq_true rfl)⟩ (C := RX5) rfl 106 cw_lad (As := [.int (nI k), .int 10]) (rest := [.int 1]) rfl (Nat.le_of_ble_eq_true rfl) ⟨(Nat.le_of_ble_eq_true rfl), (Nat.le_of_ble_eq_true rfl)⟩ dL_isLadderSo_121 (fun E u h => zno (dLad10 zTr.rfl' hk) h) (fun r u hp => ?_)
      rw [(zyes (dLad10 zTr.rfl' hk) hp).1, (zyes (dLad10 zTr.rfl' hk) hp).2]
      refine z_iconst (v := 1) E dL_isLadderSo_124 (by decide) ?_
      refine z_icmp_ne_f (tgt := 132) E dL_isLadderSo_125 (by decide) s1 ?_
      refine z_iconst (v := 1) E dL_isLadderSo_128 (by decide) ?_
      refine z_goto (tgt := 133) E dL_isLadderSo_129 (by decide) ?_
      refine z_icmp_ne_f (tgt := 158) E dL_isLadderSo_133 (by decide) (by decide) ?_
      refine z_aload_n E dL_isLadderSo_136 rfl 4 rfl ?_
      refine z_iload_n E dL_isLadderSo_137 rfl 5 rfl ?_
      refine z_bipush (v := 6) E dL_isLadderSo_138 (by decide) ?_
      refine z_callViN E hZ (k_ladder l D ad cI cR cS cL mem (c0 := 0) (s0 := 0) hl (nI k) 6  (fun E u h => zno (dLad6 zTr.rfl' hk) h)) gL_isLadderSo_X5_ladder (n := 2) rfl rfl rfl (by decide +kernel) rfl ⟨(Nat.le_of_ble_eq_true rfl), (Nat.le_of_ble_eq_true rfl)⟩ (C := RX5) rfl 106 cw_lad (As := [.int (nI k), .int 6]) (rest := []) rfl (Nat.le_of_ble_eq_true rfl) ⟨(Nat.le_of_ble_eq_true rfl), (Nat.le_of_ble_eq_true rfl)⟩ dL_isLadderSo_140 (fun E u h => zno (dLad6 zTr.rfl' hk) h) (fun r u hp => ?_)
      rw [(zyes (dLad6 zTr.rfl' hk) hp).1, (zyes (dLad6 zTr.rfl' hk) hp).2]
      refine z_join (fun v150 => v150 = fForces (rv mem k)) (pc2 := 150) (c2 := 0) (s2 := 0) (lv2 := (fun v150 => [(5, .int (nI t)), (4, .int (fMoN (rv mem k) pp)), (3, .int (fLoad (rv mem k))), (2, .int v150), (0, .ref (ad 106)), (1, .int (nI k))])) (st2 := (fun _ => [])) (fun v150 hv150 => ?_) (fun J150 => ?_)
      · subst hv150
        refine z_iload_n E dL_isLadderSo_150 rfl 3 rfl ?_
        refine z_if_lt_f (tgt := 158) E dL_isLadderSo_151 (by decide) b3 ?_
        refine z_iconst (v := 1) E dL_isLadderSo_154 (by decide) ?_
        refine z_goto (tgt := 159) E dL_isLadderSo_155 (by decide) ?_
        refine z_istore (lv' := [(5, .int 1), (4, .int (fMoN (rv mem k) pp)), (3, .int (fLoad (rv mem k))), (2, .int (fForces (rv mem k))), (0, .ref (ad 106)), (1, .int (nI k))]) E dL_isLadderSo_159 (by decide) rfl ?_
        refine z_iconst (v := 0) E dL_isLadderSo_161 (by decide) ?_
        refine z_istore (lv' := [(6, .int 0), (5, .int 1), (4, .int (fMoN (rv mem k) pp)), (3, .int (fLoad (rv mem k))), (2, .int (fForces (rv mem k))), (0, .ref (ad 106)), (1, .int (nI k))]) E dL_isLadderSo_162 (by decide) rfl ?_
        refine z_sipush (v := -1000) E dL_isLadderSo_164 (by decide) ?_
        refine z_istore (lv' := [(7, .int (-1000)), (6, .int 0), (5, .int 1), (4, .int (fMoN (rv mem k) pp)), (3, .int (fLoad (rv mem k))), (2, .int (fForces (rv mem k))), (0, .ref (ad 106)), (1, .int (nI k))]) E dL_isLadderSo_167 (by decide) rfl ?_
        refine z_loop (σ := Nat) (fun n y => y + n = 2001) (fun _ => (cw ad cI cR cS mem)) (fun y => [(7, .int (zF y)), (6, .int (nI (zHc (rv mem k) y))), (5, .int 1), (4, .int (fMoN (rv mem k) pp)), (3, .int (fLoad (rv mem k))), (2, .int (fForces (rv mem k))), (0, .ref (ad 106)), (1, .int (nI k))]) 169 0 0 ?_ 2001 0 (Nat.zero_add _) rfl (by rw [zF_0]; rfl) rfl rfl rfl
        rintro n169 i hi169 ih169
        refine z_iload E dL_isLadderSo_169 0 rfl ?_
        refine z_sipush (v := 1000) E dL_isLadderSo_171 (by decide) ?_
        refine z_icmp_gt (tgt := 203) E dL_isLadderSo_174 (by decide) (fun c174 => ?_) (fun c174 => ?_)
        · skip
          have h2001 : i = 2001 := by have := (zF_gt (i := i) (by omega)).mp c174; omega
          refine z_eq (ws' := (cw ad cI cR cS mem)) (lv' := [(7, .int (zF i)), (6, .int (fForces (rv mem k))), (5, .int 1), (4, .int (fMoN (rv mem k) pp)), (3, .int (fLoad (rv mem k))), (2, .int (fForces (rv mem k))), (0, .ref (ad 106)), (1, .int (nI k))]) (st' := []) rfl (by rw [h2001, zHc_all H]) rfl ?_
          refine z_iload_n E dL_isLadderSo_203 rfl 5 rfl ?_
          refine z_if_ne_t (tgt := 253) E dL_isLadderSo_204 (by decide) b2 ?_
          refine z_aload_n E dL_isLadderSo_253 rfl 6 rfl ?_
          refine z_iload_n E dL_isLadderSo_254 rfl 7 rfl ?_
          refine z_iconst (v := 0) E dL_isLadderSo_255 (by decide) ?_
          refine z_callViN E hZ (k_force l D ad cI cR cS cL mem (c0 := 0) (s0 := 0) hl (nI k) 0  (fun E u h => zno (dFor0 zTr.rfl' hk) h)) gL_isLadderSo_X5_force (n := 2) rfl rfl rfl (by decide +kernel) rfl ⟨(Nat.le_of_ble_eq_true rfl), (Nat.le_of_ble_eq_true rfl)⟩ (C := RX5) rfl 106 cw_lad (As := [.int (nI k), .int 0]) (rest := []) rfl (Nat.le_of_ble_eq_true rfl) ⟨(Nat.le_of_ble_eq_true rfl), (Nat.le_of_ble_eq_true rfl)⟩ dL_isLadderSo_256 (fun E u h => zno (dFor0 zTr.rfl' hk) h) (fun r u hp => ?_)
          rw [(zyes (dFor0 zTr.rfl' hk) hp).1, (zyes (dFor0 zTr.rfl' hk) hp).2]
          refine z_sipush (v := 1000) E dL_isLadderSo_259 (by decide) ?_
          refine z_isub E dL_isLadderSo_262 ?_
          refine z_eq (ws' := cw ad cI cR cS mem) (lv' := [(7, .int (zF i)), (6, .int (fForces (rv mem k))), (5, .int 1), (4, .int (fMoN (rv mem k) pp)), (3, .int (fLoad (rv mem k))), (2, .int (fForces (rv mem k))), (0, .ref (ad 106)), (1, .int (nI k))]) (st' := [.int (fLeast (rv mem k))]) rfl rfl (by rw [if_neg hst, Int32.add_sub_cancel]) ?_
          refine z_istore (lv' := [(7, .int (fLeast (rv mem k))), (6, .int (fForces (rv mem k))), (5, .int 1), (4, .int (fMoN (rv mem k) pp)), (3, .int (fLoad (rv mem k))), (2, .int (fForces (rv mem k))), (0, .ref (ad 106)), (1, .int (nI k))]) E dL_isLadderSo_263 (by decide) rfl ?_
          refine z_aload_n E dL_isLadderSo_265 rfl 6 rfl ?_
          refine z_iload_n E dL_isLadderSo_266 rfl 7 rfl ?_
          refine z_iconst (v := 1) E dL_isLadderSo_267 (by decide) ?_
          refine z_callViN E hZ (k_force l D ad cI cR cS cL mem (c0 := 0) (s0 := 0) hl (nI k) 1  (fun E u h => zno (dFor1 zTr.rfl' hk) h)) gL_isLadderSo_X5_force (n := 2) rfl rfl rfl (by decide +kernel) rfl ⟨(Nat.le_of_ble_eq_true rfl), (Nat.le_of_ble_eq_true rfl)⟩ (C := RX5) rfl 106 cw_lad (As := [.int (nI k), .int 1]) (rest := []) rfl (Nat.le_of_ble_eq_true rfl) ⟨(Nat.le_of_ble_eq_true rfl), (Nat.le_of_ble_eq_true rfl)⟩ dL_isLadderSo_268 (fun E u h => zno (dFor1 zTr.rfl' hk) h) (fun r u hp => ?_)
          rw [(zyes (dFor1 zTr.rfl' hk) hp).1, (zyes (dFor1 zTr.rfl' hk) hp).2]
          refine z_sipush (v := 1000) E dL_isLadderSo_271 (by decide) ?_
          refine z_isub E dL_isLadderSo_274 ?_
          refine z_eq (ws' := cw ad cI cR cS mem) (lv' := [(7, .int (fLeast (rv mem k))), (6, .int (fForces (rv mem k))), (5, .int 1), (4, .int (fMoN (rv mem k) pp)), (3, .int (fLoad (rv mem k))), (2, .int (fForces (rv mem k))), (0, .ref (ad 106)), (1, .int (nI k))]) (st' := [.int (fGreat (rv mem k))]) rfl rfl (by rw [if_neg hst, Int32.add_sub_cancel]) ?_
          refine z_istore (lv' := [(8, .int (fGreat (rv mem k))), (7, .int (fLeast (rv mem k))), (6, .int (fForces (rv mem k))), (5, .int 1), (4, .int (fMoN (rv mem k) pp)), (3, .int (fLoad (rv mem k))), (2, .int (fForces (rv mem k))), (0, .ref (ad 106)), (1, .int (nI k))]) E dL_isLadderSo_275 (by decide) rfl ?_
          refine z_aload_n E dL_isLadderSo_277 rfl 7 rfl ?_
          refine z_iload_n E dL_isLadderSo_278 rfl 8 rfl ?_
          refine z_iconst (v := 3) E dL_isLadderSo_279 (by decide) ?_
          refine z_callViN E hZ (k_force l D ad cI cR cS cL mem (c0 := 0) (s0 := 0) hl (nI k) 3  (fun E u h => zno (dFor3 zTr.rfl' hk) h)) gL_isLadderSo_X5_force (n := 2) rfl rfl rfl (by decide +kernel) rfl ⟨(Nat.le_of_ble_eq_true rfl), (Nat.le_of_ble_eq_true rfl)⟩ (C := RX5) rfl 106 cw_lad (As := [.int (nI k), .int 3]) (rest := []) rfl (Nat.le_of_ble_eq_true rfl) ⟨(Nat.le_of_ble_eq_true rfl), (Nat.le_of_ble_eq_true rfl)⟩ dL_isLadderSo_280 (fun E u h => zno (dFor3 zTr.rfl' hk) h) (fun r u hp => ?_)
          rw [(zyes (dFor3 zTr.rfl' hk) hp).1, (zyes (dFor3 zTr.rfl' hk) hp).2]
          refine z_sipush (v := 1000) E dL_isLadderSo_283 (by decide) ?_
          refine z_isub E dL_isLadderSo_286 ?_
          refine z_eq (ws' := cw ad cI cR cS mem) (lv' := [(8, .int (fGreat (rv mem k))), (7, .int (fLeast (rv mem k))), (6, .int (fForces (rv mem k))), (5, .int 1), (4, .int (fMoN (rv mem k) pp)), (3, .int (fLoad (rv mem k))), (2, .int (fForces (rv mem k))), (0, .ref (ad 106)), (1, .int (nI k))]) (st' := [.int (fNearest (rv mem k))]) rfl rfl (by rw [if_neg hst, Int32.add_sub_cancel]) ?_
          refine z_istore (lv' := [(9, .int (fNearest (rv mem k))), (8, .int (fGreat (rv mem k))), (7, .int (fLeast (rv mem k))), (6, .int (fForces (rv mem k))), (5, .int 1), (4, .int (fMoN (rv mem k) pp)), (3, .int (fLoad (rv mem k))), (2, .int (fForces (rv mem k))), (0, .ref (ad 106)), (1, .int (nI k))]) E dL_isLadderSo_287 (by decide) rfl ?_
          refine z_iload E dL_isLadderSo_289 4 rfl ?_
          refine z_if_eq_f (tgt := 385) E dL_isLadderSo_291 (by decide) (by decide) ?_
          refine z_iload E dL_isLadderSo_294 3 rfl ?_
          refine z_iload_n E dL_isLadderSo_296 rfl 7 rfl ?_
          refine z_icmp_ne_f (tgt := 385) E dL_isLadderSo_297 (by decide) rfl ?_
          refine z_iload E dL_isLadderSo_300 1 rfl ?_
          refine z_iload E dL_isLadderSo_302 2 rfl ?_
          refine z_isub E dL_isLadderSo_304 ?_
          refine z_iconst (v := 1) E dL_isLadderSo_305 (by decide) ?_
          refine z_iadd E dL_isLadderSo_306 ?_
          refine z_iload_n E dL_isLadderSo_307 rfl 7 rfl ?_
          refine z_icmp_ne_f (tgt := 385) E dL_isLadderSo_308 (by decide) b4 ?_
          refine z_aload_n E dL_isLadderSo_311 rfl 8 rfl ?_
          refine z_iload_n E dL_isLadderSo_312 rfl 9 rfl ?_
          refine z_iload E dL_isLadderSo_313 2 rfl ?_
          refine z_callViN E hZ (k_held l D ad cI cR cS cL mem (c0 := 0) (s0 := 0) hl (nI k) (fLeast (rv mem k))  (fun E u h => zno (dHeld (m := mem) hk (f := fLeast (rv mem k)) b18) h)) gL_isLadderSo_X5_held (n := 2) rfl rfl rfl (by decide +kernel) rfl ⟨(Nat.le_of_ble_eq_true rfl), (Nat.le_of_ble_eq_true rfl)⟩ (C := RX5) rfl 106 cw_lad (As := [.int (nI k), .int (fLeast (rv mem k))]) (rest := []) rfl (Nat.le_of_ble_eq_true rfl) ⟨(Nat.le_of_ble_eq_true rfl), (Nat.le_of_ble_eq_true rfl)⟩ dL_isLadderSo_315 (fun E u h => zno (dHeld (m := mem) hk (f := fLeast (rv mem k)) b18) h) (fun r u hp => ?_)
          rw [(zyes (dHeld (m := mem) hk (f := fLeast (rv mem k)) b18) hp).1, (zyes (dHeld (m := mem) hk (f := fLeast (rv mem k)) b18) hp).2]
          refine z_if_ne_f (tgt := 385) E dL_isLadderSo_318 (by decide) b5 ?_
          refine z_aload_n E dL_isLadderSo_321 rfl 8 rfl ?_
          refine z_iload_n E dL_isLadderSo_322 rfl 9 rfl ?_
          refine z_iload E dL_isLadderSo_323 1 rfl ?_
          refine z_callViN E hZ (k_held l D ad cI cR cS cL mem (c0 := 0) (s0 := 0) hl (nI k) (fGreat (rv mem k))  (fun E u h => zno (dHeld (m := mem) hk (f := fGreat (rv mem k)) b19) h)) gL_isLadderSo_X5_held (n := 2) rfl rfl rfl (by decide +kernel) rfl ⟨(Nat.le_of_ble_eq_true rfl), (Nat.le_of_ble_eq_true rfl)⟩ (C := RX5) rfl 106 cw_lad (As := [.int (nI k), .int (fGreat (rv mem k))]) (rest := []) rfl (Nat.le_of_ble_eq_true rfl) ⟨(Nat.le_of_ble_eq_true rfl), (Nat.le_of_ble_eq_true rfl)⟩ dL_isLadderSo_325 (fun E u h => zno (dHeld (m := mem) hk (f := fGreat (rv mem k)) b19) h) (fun r u hp => ?_)
          rw [(zyes (dHeld (m := mem) hk (f := fGreat (rv mem k)) b19) hp).1, (zyes (dHeld (m := mem) hk (f := fGreat (rv mem k)) b19) hp).2]
          refine z_if_ne_f (tgt := 385) E dL_isLadderSo_328 (by decide) b6 ?_
          refine z_aload_n E dL_isLadderSo_331 rfl 8 rfl ?_
          refine z_iload_n E dL_isLadderSo_332 rfl 9 rfl ?_
          refine z_iload E dL_isLadderSo_333 0 rfl ?_
          refine z_callViN E hZ (k_held l D ad cI cR cS cL mem (c0 := 0) (s0 := 0) hl (nI k) (fNearest (rv mem k))  (fun E u h => zno (dHeld (m := mem) hk (f := fNearest (rv mem k)) b20) h)) gL_isLadderSo_X5_held (n := 2) rfl rfl rfl (by decide +kernel) rfl ⟨(Nat.le_of_ble_eq_true rfl), (Nat.le_of_ble_eq_true rfl)⟩ (C := RX5) rfl 106 cw_lad (As := [.int (nI k), .int (fNearest (rv mem k))]) (rest := []) rfl (Nat.le_of_ble_eq_true rfl) ⟨(Nat.le_of_ble_eq_true rfl), (Nat.le_of_ble_eq_true rfl)⟩ dL_isLadderSo_335 (fun E u h => zno (dHeld (m := mem) hk (f := fNearest (rv mem k)) b20) h) (fun r u hp => ?_)
          rw [(zyes (dHeld (m := mem) hk (f := fNearest (rv mem k)) b20) hp).1, (zyes (dHeld (m := mem) hk (f := fNearest (rv mem k)) b20) hp).2]
          refine z_if_ne_f (tgt := 385) E dL_isLadderSo_338 (by decide) b7 ?_
          refine z_iload E dL_isLadderSo_341 2 rfl ?_
          refine z_sipush (v := -1000) E dL_isLadderSo_343 (by decide) ?_
          refine z_join (fun v361 => v361 = fForces (rv mem k)) (pc2 := 361) (c2 := 0) (s2 := 0) (lv2 := (fun v361 => [(9, .int (fNearest (rv mem k))), (8, .int (fGreat (rv mem k))), (7, .int (fLeast (rv mem k))), (6, .int (fForces (rv mem k))), (5, .int 1), (4, .int (fMoN (rv mem k) pp)), (3, .int (fLoad (rv mem k))), (2, .int v361), (0, .ref (ad 106)), (1, .int (nI k))])) (st2 := (fun _ => [])) (fun v361 hv361 => ?_) (fun J361 => ?_)
          · subst hv361
            refine z_iload E dL_isLadderSo_361 1 rfl ?_
            refine z_sipush (v := 1000) E dL_isLadderSo_363 (by decide) ?_
            refine z_join (fun v381 => v381 = fForces (rv mem k)) (pc2 := 381) (c2 := 0) (s2 := 0) (lv2 := (fun v381 => [(9, .int (fNearest (rv mem k))), (8, .int (fGreat (rv mem k))), (7, .int (fLeast (rv mem k))), (6, .int (fForces (rv mem k))), (5, .int 1), (4, .int (fMoN (rv mem k) pp)), (3, .int (fLoad (rv mem k))), (2, .int v381), (0, .ref (ad 106)), (1, .int (nI k))])) (st2 := (fun _ => [])) (fun v381 hv381 => ?_) (fun J381 => ?_)
            · subst hv381
              refine z_iconst (v := 1) E dL_isLadderSo_381 (by decide) ?_
              refine z_goto (tgt := 386) E dL_isLadderSo_382 (by decide) ?_
              refine z_istore (lv' := [(5, .int 1), (9, .int (fNearest (rv mem k))), (8, .int (fGreat (rv mem k))), (7, .int (fLeast (rv mem k))), (6, .int (fForces (rv mem k))), (4, .int (fMoN (rv mem k) pp)), (3, .int (fLoad (rv mem k))), (2, .int (fForces (rv mem k))), (0, .ref (ad 106)), (1, .int (nI k))]) E dL_isLadderSo_386 (by decide) rfl ?_
              refine z_iload E dL_isLadderSo_388 0 rfl ?_
              refine z_if_eq_f (tgt := 455) E dL_isLadderSo_390 (by decide) (by decide) ?_
              refine z_iload E dL_isLadderSo_393 1 rfl ?_
              refine z_iload E dL_isLadderSo_395 3 rfl ?_
              refine z_icmp_lt_f (tgt := 455) E dL_isLadderSo_397 (by decide) b10 ?_
              refine z_iload E dL_isLadderSo_400 1 rfl ?_
              refine z_iload E dL_isLadderSo_402 2 rfl ?_
              refine z_icmp_gt_f (tgt := 455) E dL_isLadderSo_404 (by decide) b11 ?_
              refine z_iload E dL_isLadderSo_407 1 rfl ?_
              refine z_join (fun v436 => v436 = fForces (rv mem k)) (pc2 := 436) (c2 := 0) (s2 := 0) (lv2 := (fun v436 => [(5, .int 1), (9, .int (fNearest (rv mem k))), (8, .int (fGreat (rv mem k))), (7, .int (fLeast (rv mem k))), (6, .int (fForces (rv mem k))), (4, .int (fMoN (rv mem k) pp)), (3, .int (fLoad (rv mem k))), (2, .int v436), (0, .ref (ad 106)), (1, .int (nI k))])) (st2 := (fun _ => [])) (fun v436 hv436 => ?_) (fun J436 => ?_)
              · subst hv436
                refine z_iload E dL_isLadderSo_436 3 rfl ?_
                refine z_join (fun v451 => v451 = fForces (rv mem k)) (pc2 := 451) (c2 := 0) (s2 := 0) (lv2 := (fun v451 => [(5, .int 1), (9, .int (fNearest (rv mem k))), (8, .int (fGreat (rv mem k))), (7, .int (fLeast (rv mem k))), (6, .int (fForces (rv mem k))), (4, .int (fMoN (rv mem k) pp)), (3, .int (fLoad (rv mem k))), (2, .int v451), (0, .ref (ad 106)), (1, .int (nI k))])) (st2 := (fun _ => [])) (fun v451 hv451 => ?_) (fun J451 => ?_)
                · subst hv451
                  refine z_iconst (v := 1) E dL_isLadderSo_451 (by decide) ?_
                  refine z_goto (tgt := 456) E dL_isLadderSo_452 (by decide) ?_
                  refine z_istore (lv' := [(5, .int 1), (9, .int (fNearest (rv mem k))), (8, .int (fGreat (rv mem k))), (7, .int (fLeast (rv mem k))), (6, .int (fForces (rv mem k))), (4, .int (fMoN (rv mem k) pp)), (3, .int (fLoad (rv mem k))), (2, .int (fForces (rv mem k))), (0, .ref (ad 106)), (1, .int (nI k))]) E dL_isLadderSo_456 (by decide) rfl ?_
                  refine z_iload E dL_isLadderSo_458 0 rfl ?_
                  refine z_if_eq_f (tgt := 542) E dL_isLadderSo_460 (by decide) (by decide) ?_
                  refine z_aload_n E dL_isLadderSo_463 rfl 8 rfl ?_
                  refine z_iload_n E dL_isLadderSo_464 rfl 9 rfl ?_
                  refine z_iconst (v := 4) E dL_isLadderSo_465 (by decide) ?_
                  refine z_callViN E hZ (k_force l D ad cI cR cS cL mem (c0 := 0) (s0 := 0) hl (nI k) 4  (fun E u h => zno (dFor4 zTr.rfl' hk) h)) gL_isLadderSo_X5_force (n := 2) rfl rfl rfl (by decide +kernel) rfl ⟨(Nat.le_of_ble_eq_true rfl), (Nat.le_of_ble_eq_true rfl)⟩ (C := RX5) rfl 106 cw_lad (As := [.int (nI k), .int 4]) (rest := []) rfl (Nat.le_of_ble_eq_true rfl) ⟨(Nat.le_of_ble_eq_true rfl), (Nat.le_of_ble_eq_true rfl)⟩ dL_isLadderSo_466 (fun E u h => zno (dFor4 zTr.rfl' hk) h) (fun r u hp => ?_)
                  rw [(zyes (dFor4 zTr.rfl' hk) hp).1, (zyes (dFor4 zTr.rfl' hk) hp).2]
                  refine z_aload_n E dL_isLadderSo_469 rfl 8 rfl ?_
                  refine z_iload_n E dL_isLadderSo_470 rfl 9 rfl ?_
                  refine z_bipush (v := 8) E dL_isLadderSo_471 (by decide) ?_
                  refine z_callViN E hZ (k_ladder l D ad cI cR cS cL mem (c0 := 0) (s0 := 0) hl (nI k) 8  (fun E u h => zno (dLad8 zTr.rfl' hk) h)) gL_isLadderSo_X5_ladder (n := 2) rfl rfl rfl (by decide +kernel) rfl ⟨(Nat.le_of_ble_eq_true rfl), (Nat.le_of_ble_eq_true rfl)⟩ (C := RX5) rfl 106 cw_lad (As := [.int (nI k), .int 8]) (rest := [.int (if fStands (rv mem k) = 0 then -1 else fPush (rv mem k) (fNearest (rv mem k)))]) rfl (Nat.le_of_ble_eq_true rfl) ⟨(Nat.le_of_ble_eq_true rfl), (Nat.le_of_ble_eq_true rfl)⟩ dL_isLadderSo_473 (fun E u h => zno (dLad8 zTr.rfl' hk) h) (fun r u hp => ?_)
                  rw [(zyes (dLad8 zTr.rfl' hk) hp).1, (zyes (dLad8 zTr.rfl' hk) hp).2]
                  refine z_bipush (v := 10) E dL_isLadderSo_476 (by decide) ?_
                  refine z_iload E dL_isLadderSo_478 1 rfl ?_
                  refine z_imul E dL_isLadderSo_480 ?_
                  refine z_aload_n E dL_isLadderSo_481 rfl 8 rfl ?_
                  refine z_iload_n E dL_isLadderSo_482 rfl 9 rfl ?_
                  refine z_iconst (v := 0) E dL_isLadderSo_483 (by decide) ?_
                  refine z_callViN E hZ (k_ladder l D ad cI cR cS cL mem (c0 := 0) (s0 := 0) hl (nI k) 0  (fun E u h => zno (dLad0 zTr.rfl' hk) h)) gL_isLadderSo_X5_ladder (n := 2) rfl rfl rfl (by decide +kernel) rfl ⟨(Nat.le_of_ble_eq_true rfl), (Nat.le_of_ble_eq_true rfl)⟩ (C := RX5) rfl 106 cw_lad (As := [.int (nI k), .int 0]) (rest := [.int (10 * (fNearest (rv mem k))), .int (fMoment (rv mem k)), .int (if fStands (rv mem k) = 0 then -1 else fPush (rv mem k) (fNearest (rv mem k)))]) rfl (Nat.le_of_ble_eq_true rfl) ⟨(Nat.le_of_ble_eq_true rfl), (Nat.le_of_ble_eq_true rfl)⟩ dL_isLadderSo_484 (fun E u h => zno (dLad0 zTr.rfl' hk) h) (fun r u hp => ?_)
                  rw [(zyes (dLad0 zTr.rfl' hk) hp).1, (zyes (dLad0 zTr.rfl' hk) hp).2]
                  refine z_imul E dL_isLadderSo_487 ?_
                  refine z_isub E dL_isLadderSo_488 ?_
                  refine z_icmp_ne_f (tgt := 542) E dL_isLadderSo_489 (by decide) (if_neg hst) ?_
                  refine z_aload_n E dL_isLadderSo_492 rfl 8 rfl ?_
                  refine z_iload_n E dL_isLadderSo_493 rfl 9 rfl ?_
                  refine z_iconst (v := 4) E dL_isLadderSo_494 (by decide) ?_
                  refine z_callViN E hZ (k_force l D ad cI cR cS cL mem (c0 := 0) (s0 := 0) hl (nI k) 4  (fun E u h => zno (dFor4 zTr.rfl' hk) h)) gL_isLadderSo_X5_force (n := 2) rfl rfl rfl (by decide +kernel) rfl ⟨(Nat.le_of_ble_eq_true rfl), (Nat.le_of_ble_eq_true rfl)⟩ (C := RX5) rfl 106 cw_lad (As := [.int (nI k), .int 4]) (rest := []) rfl (Nat.le_of_ble_eq_true rfl) ⟨(Nat.le_of_ble_eq_true rfl), (Nat.le_of_ble_eq_true rfl)⟩ dL_isLadderSo_495 (fun E u h => zno (dFor4 zTr.rfl' hk) h) (fun r u hp => ?_)
                  rw [(zyes (dFor4 zTr.rfl' hk) hp).1, (zyes (dFor4 zTr.rfl' hk) hp).2]
                  refine z_if_lt_f (tgt := 542) E dL_isLadderSo_498 (by decide) (by rw [if_neg hst]; exact b15) ?_
                  refine z_aload_n E dL_isLadderSo_501 rfl 8 rfl ?_
                  refine z_iload_n E dL_isLadderSo_502 rfl 9 rfl ?_
                  refine z_iconst (v := 5) E dL_isLadderSo_503 (by decide) ?_
                  refine z_callViN E hZ (k_force l D ad cI cR cS cL mem (c0 := 0) (s0 := 0) hl (nI k) 5  (fun E u h => zno (dFor5 zTr.rfl' hk) h)) gL_isLadderSo_X5_force (n := 2) rfl rfl rfl (by decide +kernel) rfl ⟨(Nat.le_of_ble_eq_true rfl), (Nat.le_of_ble_eq_true rfl)⟩ (C := RX5) rfl 106 cw_lad (As := [.int (nI k), .int 5]) (rest := []) rfl (Nat.le_of_ble_eq_true rfl) ⟨(Nat.le_of_ble_eq_true rfl), (Nat.le_of_ble_eq_true rfl)⟩ dL_isLadderSo_504 (fun E u h => zno (dFor5 zTr.rfl' hk) h) (fun r u hp => ?_)
                  rw [(zyes (dFor5 zTr.rfl' hk) hp).1, (zyes (dFor5 zTr.rfl' hk) hp).2]
                  refine z_iload_n E dL_isLadderSo_507 rfl 6 rfl ?_
                  refine z_iload E dL_isLadderSo_508 1 rfl ?_
                  refine z_isub E dL_isLadderSo_510 ?_
                  refine z_icmp_ne_f (tgt := 542) E dL_isLadderSo_511 (by decide) (if_neg hst) ?_
                  refine z_aload_n E dL_isLadderSo_514 rfl 8 rfl ?_
                  refine z_iload_n E dL_isLadderSo_515 rfl 9 rfl ?_
                  refine z_iconst (v := 5) E dL_isLadderSo_516 (by decide) ?_
                  refine z_callViN E hZ (k_force l D ad cI cR cS cL mem (c0 := 0) (s0 := 0) hl (nI k) 5  (fun E u h => zno (dFor5 zTr.rfl' hk) h)) gL_isLadderSo_X5_force (n := 2) rfl rfl rfl (by decide +kernel) rfl ⟨(Nat.le_of_ble_eq_true rfl), (Nat.le_of_ble_eq_true rfl)⟩ (C := RX5) rfl 106 cw_lad (As := [.int (nI k), .int 5]) (rest := []) rfl (Nat.le_of_ble_eq_true rfl) ⟨(Nat.le_of_ble_eq_true rfl), (Nat.le_of_ble_eq_true rfl)⟩ dL_isLadderSo_517 (fun E u h => zno (dFor5 zTr.rfl' hk) h) (fun r u hp => ?_)
                  rw [(zyes (dFor5 zTr.rfl' hk) hp).1, (zyes (dFor5 zTr.rfl' hk) hp).2]
                  refine z_if_lt_f (tgt := 542) E dL_isLadderSo_520 (by decide) (by rw [if_neg hst]; exact b16) ?_
                  refine z_aload_n E dL_isLadderSo_523 rfl 8 rfl ?_
                  refine z_iload_n E dL_isLadderSo_524 rfl 9 rfl ?_
                  refine z_iconst (v := 4) E dL_isLadderSo_525 (by decide) ?_
                  refine z_callViN E hZ (k_ladder l D ad cI cR cS cL mem (c0 := 0) (s0 := 0) hl (nI k) 4  (fun E u h => zno (dLad4 zTr.rfl' hk) h)) gL_isLadderSo_X5_ladder (n := 2) rfl rfl rfl (by decide +kernel) rfl ⟨(Nat.le_of_ble_eq_true rfl), (Nat.le_of_ble_eq_true rfl)⟩ (C := RX5) rfl 106 cw_lad (As := [.int (nI k), .int 4]) (rest := []) rfl (Nat.le_of_ble_eq_true rfl) ⟨(Nat.le_of_ble_eq_true rfl), (Nat.le_of_ble_eq_true rfl)⟩ dL_isLadderSo_526 (fun E u h => zno (dLad4 zTr.rfl' hk) h) (fun r u hp => ?_)
                  rw [(zyes (dLad4 zTr.rfl' hk) hp).1, (zyes (dLad4 zTr.rfl' hk) hp).2]
                  refine z_iconst (v := 3) E dL_isLadderSo_529 (by decide) ?_
                  refine z_icmp_ne (tgt := 538) E dL_isLadderSo_530 (by decide) (fun c530 => ?_) (fun c530 => ?_)
                  · skip
                    refine z_iconst (v := 1) E dL_isLadderSo_538 (by decide) ?_
                    refine z_goto (tgt := 543) E dL_isLadderSo_539 (by decide) ?_
                    exact z_izretM E hr hlocks (()) rfl rfl rfl (Nat.le_of_ble_eq_true rfl) (Nat.le_of_ble_eq_true rfl) dL_isLadderSo_543
                  · skip
                    refine z_iload E dL_isLadderSo_533 3 rfl ?_
                    refine z_if_lt_f (tgt := 542) E dL_isLadderSo_535 (by decide) (b17 c530) ?_
                    refine z_iconst (v := 1) E dL_isLadderSo_538 (by decide) ?_
                    refine z_goto (tgt := 543) E dL_isLadderSo_539 (by decide) ?_
                    exact z_izretM E hr hlocks (()) rfl rfl rfl (Nat.le_of_ble_eq_true rfl) (Nat.le_of_ble_eq_true rfl) dL_isLadderSo_543
                · skip
                  refine z_if_gt (tgt := 451) E dL_isLadderSo_438 (by decide) (fun c438 => ?_) (fun c438 => ?_)
                  · skip
                    exact J451 _ rfl
                  · skip
                    refine z_iload E dL_isLadderSo_441 2 rfl ?_
                    refine z_if_lt_f (tgt := 451) E dL_isLadderSo_443 (by decide) b14 ?_
                    refine z_iload E dL_isLadderSo_446 1 rfl ?_
                    refine z_if_ne_f (tgt := 455) E dL_isLadderSo_448 (by decide) (b13 c438) ?_
                    exact J451 _ rfl
              · skip
                refine z_if_eq (tgt := 436) E dL_isLadderSo_409 (by decide) (fun c409 => ?_) (fun c409 => ?_)
                · skip
                  exact J436 _ rfl
                · skip
                  refine z_iload E dL_isLadderSo_412 3 rfl ?_
                  refine z_if_le_f (tgt := 424) E dL_isLadderSo_414 (by decide) (b12 c409).1 ?_
                  refine z_iload E dL_isLadderSo_417 1 rfl ?_
                  refine z_iload E dL_isLadderSo_419 3 rfl ?_
                  refine z_icmp_eq_t (tgt := 436) E dL_isLadderSo_421 (by decide) (b12 c409).2 ?_
                  exact J436 _ rfl
            · skip
              refine z_icmp_eq (tgt := 381) E dL_isLadderSo_366 (by decide) (fun c366 => ?_) (fun c366 => ?_)
              · skip
                exact J381 _ rfl
              · skip
                refine z_aload_n E dL_isLadderSo_369 rfl 8 rfl ?_
                refine z_iload_n E dL_isLadderSo_370 rfl 9 rfl ?_
                refine z_iload E dL_isLadderSo_371 1 rfl ?_
                refine z_iconst (v := 1) E dL_isLadderSo_373 (by decide) ?_
                refine z_iadd E dL_isLadderSo_374 ?_
                refine z_callViN E hZ (k_held l D ad cI cR cS cL mem (c0 := 0) (s0 := 0) hl (nI k) ((fGreat (rv mem k)) + 1)  (fun E u h => zno (dHeld (m := mem) hk (f := (fGreat (rv mem k)) + 1) (b9 c366).1) h)) gL_isLadderSo_X5_held (n := 2) rfl rfl rfl (by decide +kernel) rfl ⟨(Nat.le_of_ble_eq_true rfl), (Nat.le_of_ble_eq_true rfl)⟩ (C := RX5) rfl 106 cw_lad (As := [.int (nI k), .int ((fGreat (rv mem k)) + 1)]) (rest := []) rfl (Nat.le_of_ble_eq_true rfl) ⟨(Nat.le_of_ble_eq_true rfl), (Nat.le_of_ble_eq_true rfl)⟩ dL_isLadderSo_375 (fun E u h => zno (dHeld (m := mem) hk (f := (fGreat (rv mem k)) + 1) (b9 c366).1) h) (fun r u hp => ?_)
                rw [(zyes (dHeld (m := mem) hk (f := (fGreat (rv mem k)) + 1) (b9 c366).1) hp).1, (zyes (dHeld (m := mem) hk (f := (fGreat (rv mem k)) + 1) (b9 c366).1) hp).2]
                refine z_if_le_f (tgt := 385) E dL_isLadderSo_378 (by decide) (b9 c366).2 ?_
                exact J381 _ rfl
          · skip
            refine z_icmp_eq (tgt := 361) E dL_isLadderSo_346 (by decide) (fun c346 => ?_) (fun c346 => ?_)
            · skip
              exact J361 _ rfl
            · skip
              refine z_aload_n E dL_isLadderSo_349 rfl 8 rfl ?_
              refine z_iload_n E dL_isLadderSo_350 rfl 9 rfl ?_
              refine z_iload E dL_isLadderSo_351 2 rfl ?_
              refine z_iconst (v := 1) E dL_isLadderSo_353 (by decide) ?_
              refine z_isub E dL_isLadderSo_354 ?_
              refine z_callViN E hZ (k_held l D ad cI cR cS cL mem (c0 := 0) (s0 := 0) hl (nI k) ((fLeast (rv mem k)) - 1)  (fun E u h => zno (dHeld (m := mem) hk (f := (fLeast (rv mem k)) - 1) (b8 c346).1) h)) gL_isLadderSo_X5_held (n := 2) rfl rfl rfl (by decide +kernel) rfl ⟨(Nat.le_of_ble_eq_true rfl), (Nat.le_of_ble_eq_true rfl)⟩ (C := RX5) rfl 106 cw_lad (As := [.int (nI k), .int ((fLeast (rv mem k)) - 1)]) (rest := []) rfl (Nat.le_of_ble_eq_true rfl) ⟨(Nat.le_of_ble_eq_true rfl), (Nat.le_of_ble_eq_true rfl)⟩ dL_isLadderSo_355 (fun E u h => zno (dHeld (m := mem) hk (f := (fLeast (rv mem k)) - 1) (b8 c346).1) h) (fun r u hp => ?_)
              rw [(zyes (dHeld (m := mem) hk (f := (fLeast (rv mem k)) - 1) (b8 c346).1) hp).1, (zyes (dHeld (m := mem) hk (f := (fLeast (rv mem k)) - 1) (b8 c346).1) hp).2]
              refine z_if_le_f (tgt := 385) E dL_isLadderSo_358 (by decide) (b8 c346).2 ?_
              exact J361 _ rfl
        · skip
          have hi2 : i ≤ 2000 := by have := mt (zF_gt (i := i) (by omega)).mpr c174; omega
          refine z_iload E dL_isLadderSo_177 1 rfl ?_
          refine z_aload_n E dL_isLadderSo_179 rfl 6 rfl ?_
          refine z_iload_n E dL_isLadderSo_180 rfl 7 rfl ?_
          refine z_iload E dL_isLadderSo_181 0 rfl ?_
          refine z_callViN E hZ (k_held l D ad cI cR cS cL mem (c0 := 0) (s0 := 0) hl (nI k) (zF i)  (fun E u h => zno (dHeld (m := mem) hk (f := zF i) (zF_in (by omega))) h)) gL_isLadderSo_X5_held (n := 2) rfl rfl rfl (by decide +kernel) rfl ⟨(Nat.le_of_ble_eq_true rfl), (Nat.le_of_ble_eq_true rfl)⟩ (C := RX5) rfl 106 cw_lad (As := [.int (nI k), .int (zF i)]) (rest := [.int (nI (zHc (rv mem k) i))]) rfl (Nat.le_of_ble_eq_true rfl) ⟨(Nat.le_of_ble_eq_true rfl), (Nat.le_of_ble_eq_true rfl)⟩ dL_isLadderSo_183 (fun E u h => zno (dHeld (m := mem) hk (f := zF i) (zF_in (by omega))) h) (fun r u hp => ?_)
          rw [(zyes (dHeld (m := mem) hk (f := zF i) (zF_in (by omega))) hp).1, (zyes (dHeld (m := mem) hk (f := zF i) (zF_in (by omega))) hp).2]
          refine z_join (fun v194 => v194 = if fWGW (rv mem k) (zF i) = 0 then (1 : Int32) else 0) (pc2 := 194) (c2 := 0) (s2 := 0) (lv2 := (fun _ => [(7, .int (zF i)), (6, .int (nI (zHc (rv mem k) i))), (5, .int 1), (4, .int (fMoN (rv mem k) pp)), (3, .int (fLoad (rv mem k))), (2, .int (fForces (rv mem k))), (0, .ref (ad 106)), (1, .int (nI k))])) (st2 := (fun v194 => [.int v194, .int (nI (zHc (rv mem k) i))])) (fun v194 hv194 => ?_) (fun J194 => ?_)
          · subst hv194
            refine z_iadd E dL_isLadderSo_194 ?_
            refine z_istore (lv' := [(6, .int ((nI (zHc (rv mem k) i)) + (if fWGW (rv mem k) (zF i) = 0 then (1 : Int32) else 0))), (7, .int (zF i)), (5, .int 1), (4, .int (fMoN (rv mem k) pp)), (3, .int (fLoad (rv mem k))), (2, .int (fForces (rv mem k))), (0, .ref (ad 106)), (1, .int (nI k))]) E dL_isLadderSo_195 (by decide) rfl ?_
            refine z_iinc (v := zF i + 1) (lv' := [(7, .int (zF i + 1)), (6, .int ((nI (zHc (rv mem k) i)) + (if fWGW (rv mem k) (zF i) = 0 then (1 : Int32) else 0))), (5, .int 1), (4, .int (fMoN (rv mem k) pp)), (3, .int (fLoad (rv mem k))), (2, .int (fForces (rv mem k))), (0, .ref (ad 106)), (1, .int (nI k))]) E dL_isLadderSo_197 (q := 1) rfl rfl (by decide) rfl ?_
            refine z_goto (tgt := 169) E dL_isLadderSo_200 (by decide) ?_
            refine z_eq (ws' := (cw ad cI cR cS mem)) (lv' := [(7, .int (zF (i + 1))), (6, .int (nI (zHc (rv mem k) (i + 1)))), (5, .int 1), (4, .int (fMoN (rv mem k) pp)), (3, .int (fLoad (rv mem k))), (2, .int (fForces (rv mem k))), (0, .ref (ad 106)), (1, .int (nI k))]) (st' := []) rfl (by rw [← zF_s (show i ≤ 2900 by omega), ← zHc_s]) rfl ?_
            exact ih169 (n169 - 1) (i + 1) (by omega) (by omega)
          · skip
            refine z_if_ne (tgt := 193) E dL_isLadderSo_186 (by decide) (fun c186 => ?_) (fun c186 => ?_)
            · skip
              refine z_iconst (v := 0) E dL_isLadderSo_193 (by decide) ?_
              exact J194 _ (if_neg c186).symm
            · skip
              refine z_iconst (v := 1) E dL_isLadderSo_189 (by decide) ?_
              refine z_goto (tgt := 194) E dL_isLadderSo_190 (by decide) ?_
              exact J194 _ (if_pos c186).symm
      · skip
        refine z_if_eq (tgt := 150) E dL_isLadderSo_143 (by decide) (fun c143 => ?_) (fun c143 => ?_)
        · skip
          exact J150 _ rfl
        · skip
          refine z_iload_n E dL_isLadderSo_146 rfl 3 rfl ?_
          refine z_if_le_f (tgt := 158) E dL_isLadderSo_147 (by decide) b1 ?_
          exact J150 _ rfl
  · skip
    have ht : t < pp := zklt (k := t) (L := pp) (by omega) (by omega) c36
    refine z_iload_n E dL_isLadderSo_39 rfl 2 rfl ?_
    refine z_aload_n E dL_isLadderSo_40 rfl 4 rfl ?_
    refine z_iload_n E dL_isLadderSo_41 rfl 5 rfl ?_
    refine z_iload E dL_isLadderSo_42 0 rfl ?_
    refine z_iconst (v := 0) E dL_isLadderSo_44 (by decide) ?_
    refine z_callViN E hZ (k_person l D ad cI cR cS cL mem (c0 := 0) (s0 := 0) hl (nI k) (nI t) 0  (fun E u h => zno (dPer0 zTr.rfl' hk h7 hpp3 ht) h)) gL_isLadderSo_X5_person (n := 3) rfl rfl rfl (by decide +kernel) rfl ⟨(Nat.le_of_ble_eq_true rfl), (Nat.le_of_ble_eq_true rfl)⟩ (C := RX5) rfl 106 cw_lad (As := [.int (nI k), .int (nI t), .int 0]) (rest := [.int (fLdN (rv mem k) t)]) rfl (Nat.le_of_ble_eq_true rfl) ⟨(Nat.le_of_ble_eq_true rfl), (Nat.le_of_ble_eq_true rfl)⟩ dL_isLadderSo_45 (fun E u h => zno (dPer0 zTr.rfl' hk h7 hpp3 ht) h) (fun r u hp => ?_)
    rw [(zyes (dPer0 zTr.rfl' hk h7 hpp3 ht) hp).1, (zyes (dPer0 zTr.rfl' hk h7 hpp3 ht) hp).2]
    refine z_iadd E dL_isLadderSo_48 ?_
    refine z_istore_n (lv' := [(3, .int ((fLdN (rv mem k) t) + (rv mem k (8 + t)))), (5, .int (nI t)), (4, .int (fMoN (rv mem k) t)), (2, .int (fForces (rv mem k))), (0, .ref (ad 106)), (1, .int (nI k))]) E dL_isLadderSo_49 rfl (by decide) rfl ?_
    refine z_iload E dL_isLadderSo_50 2 rfl ?_
    refine z_aload_n E dL_isLadderSo_52 rfl 4 rfl ?_
    refine z_iload_n E dL_isLadderSo_53 rfl 5 rfl ?_
    refine z_iload E dL_isLadderSo_54 1 rfl ?_
    refine z_iconst (v := 0) E dL_isLadderSo_56 (by decide) ?_
    refine z_callViN E hZ (k_person l D ad cI cR cS cL mem (c0 := 0) (s0 := 0) hl (nI k) (nI t) 0  (fun E u h => zno (dPer0 zTr.rfl' hk h7 hpp3 ht) h)) gL_isLadderSo_X5_person (n := 3) rfl rfl rfl (by decide +kernel) rfl ⟨(Nat.le_of_ble_eq_true rfl), (Nat.le_of_ble_eq_true rfl)⟩ (C := RX5) rfl 106 cw_lad (As := [.int (nI k), .int (nI t), .int 0]) (rest := [.int (fMoN (rv mem k) t)]) rfl (Nat.le_of_ble_eq_true rfl) ⟨(Nat.le_of_ble_eq_true rfl), (Nat.le_of_ble_eq_true rfl)⟩ dL_isLadderSo_57 (fun E u h => zno (dPer0 zTr.rfl' hk h7 hpp3 ht) h) (fun r u hp => ?_)
    rw [(zyes (dPer0 zTr.rfl' hk h7 hpp3 ht) hp).1, (zyes (dPer0 zTr.rfl' hk h7 hpp3 ht) hp).2]
    refine z_aload_n E dL_isLadderSo_60 rfl 4 rfl ?_
    refine z_iload_n E dL_isLadderSo_61 rfl 5 rfl ?_
    refine z_iload E dL_isLadderSo_62 1 rfl ?_
    refine z_iconst (v := 1) E dL_isLadderSo_64 (by decide) ?_
    refine z_callViN E hZ (k_person l D ad cI cR cS cL mem (c0 := 0) (s0 := 0) hl (nI k) (nI t) 1  (fun E u h => zno (dPer1 zTr.rfl' hk h7 hpp3 ht) h)) gL_isLadderSo_X5_person (n := 3) rfl rfl rfl (by decide +kernel) rfl ⟨(Nat.le_of_ble_eq_true rfl), (Nat.le_of_ble_eq_true rfl)⟩ (C := RX5) rfl 106 cw_lad (As := [.int (nI k), .int (nI t), .int 1]) (rest := [.int (rv mem k (8 + t)), .int (fMoN (rv mem k) t)]) rfl (Nat.le_of_ble_eq_true rfl) ⟨(Nat.le_of_ble_eq_true rfl), (Nat.le_of_ble_eq_true rfl)⟩ dL_isLadderSo_65 (fun E u h => zno (dPer1 zTr.rfl' hk h7 hpp3 ht) h) (fun r u hp => ?_)
    rw [(zyes (dPer1 zTr.rfl' hk h7 hpp3 ht) hp).1, (zyes (dPer1 zTr.rfl' hk h7 hpp3 ht) hp).2]
    refine z_imul E dL_isLadderSo_68 ?_
    refine z_iadd E dL_isLadderSo_69 ?_
    refine z_istore (lv' := [(4, .int ((fMoN (rv mem k) t) + ((rv mem k (8 + t)) * (rv mem k (11 + t))))), (3, .int ((fLdN (rv mem k) t) + (rv mem k (8 + t)))), (5, .int (nI t)), (2, .int (fForces (rv mem k))), (0, .ref (ad 106)), (1, .int (nI k))]) E dL_isLadderSo_70 (by decide) rfl ?_
    refine z_iinc (v := nI t + 1) (lv' := [(5, .int (nI t + 1)), (4, .int ((fMoN (rv mem k) t) + ((rv mem k (8 + t)) * (rv mem k (11 + t))))), (3, .int ((fLdN (rv mem k) t) + (rv mem k (8 + t)))), (2, .int (fForces (rv mem k))), (0, .ref (ad 106)), (1, .int (nI k))]) E dL_isLadderSo_72 (q := 2) rfl rfl (by decide) rfl ?_
    refine z_goto (tgt := 27) E dL_isLadderSo_75 (by decide) ?_
    refine z_eq (ws' := (cw ad cI cR cS mem)) (lv' := [(5, .int (nI (t + 1))), (4, .int (fMoN (rv mem k) (t + 1))), (3, .int (fLdN (rv mem k) (t + 1))), (2, .int (fForces (rv mem k))), (0, .ref (ad 106)), (1, .int (nI k))]) (st' := []) rfl (by rw [← nI_1 t]; rfl) rfl ?_
    exact ih27 (n27 - 1) (t + 1) (by omega) (by omega)
