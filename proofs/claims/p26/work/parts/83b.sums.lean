/-! the sums, as the law sees them -/
set_option maxHeartbeats 8000000 in
set_option maxRecDepth 100000 in
theorem k_sums (l : Launch) (D : va_G) (ad : Nat → Nat) (cI cR cS cL : ClassId) (mem : zM) (hl : l.stackTraces = false) {B : Nat} (hin : zIN B mem) (hB : B ≤ 1000000) : zMi l yL_areSums wsL_areSums ({ frames := 8, cells := 0, slots := 0, locals := 136 }) D (cK cI cR cS cL) [.ref (ad 106)] (cw ad cI cR cS mem) (fun r (_ : Unit) => r = 1) (fun _ => (cw ad cI cR cS mem)) 0 0 := by
  have hok := hin.1
  obtain ⟨hnn, s1, s2, s3⟩ := zShare_in hin hB
  obtain ⟨f1, f2⟩ := zFalls_of hin.2.2 hB
  refine zMiM.of (cc := cL_areSums) (maxL := 8) (ret := (some .boolean)) (by decide +kernel) rfl (lv0 := [(0, .ref (ad 106))]) (Nat.le_of_ble_eq_true rfl) rfl ?_
  intro p e s m args below meth c E hZ hr hlocks hnm
  refine z_iconst (v := 0) E dL_areSums_0 (by decide) ?_
  refine z_istore_n (lv' := [(1, .int 0), (0, .ref (ad 106))]) E dL_areSums_1 rfl (by decide) rfl ?_
  refine z_iconst (v := 0) E dL_areSums_2 (by decide) ?_
  refine z_istore_n (lv' := [(2, .int 0), (1, .int 0), (0, .ref (ad 106))]) E dL_areSums_3 rfl (by decide) rfl ?_
  refine z_iconst (v := 0) E dL_areSums_4 (by decide) ?_
  refine z_istore_n (lv' := [(3, .int 0), (2, .int 0), (1, .int 0), (0, .ref (ad 106))]) E dL_areSums_5 rfl (by decide) rfl ?_
  refine z_iconst (v := 1) E dL_areSums_6 (by decide) ?_
  refine z_istore (lv' := [(4, .int 1), (3, .int 0), (2, .int 0), (1, .int 0), (0, .ref (ad 106))]) E dL_areSums_7 (by decide) rfl ?_
  refine z_iconst (v := 0) E dL_areSums_9 (by decide) ?_
  refine z_istore (lv' := [(5, .int 0), (4, .int 1), (3, .int 0), (2, .int 0), (1, .int 0), (0, .ref (ad 106))]) E dL_areSums_10 (by decide) rfl ?_
  refine z_loop (σ := Nat) (fun n y => y + n = 4) (fun _ => (cw ad cI cR cS mem)) (fun y => [(5, .int (nI y)), (4, .int 1), (3, .int (zSs mem y)), (2, .int (zSf mem y)), (1, .int (zSp mem y)), (0, .ref (ad 106))]) 12 0 0 ?_ 4 0 (Nat.zero_add _) rfl rfl rfl rfl rfl
  rintro n12 k hi12 ih12
  refine z_iload E dL_areSums_12 0 rfl ?_
  refine z_iconst (v := 4) E dL_areSums_14 (by decide) ?_
  refine z_icmp_ge (tgt := 181) E dL_areSums_15 (by decide) (fun c15 => ?_) (fun c15 => ?_)
  · skip
    have hk4 : k = 4 := by have := (nI_leI (a := 4) (b := k) (by omega) (by omega)).mp c15; omega
    refine z_lv [1, 2, 3, 4, 5] (lv' := [(4, .int 1), (3, .int (zSs mem k)), (2, .int (zSf mem k)), (1, .int (zSp mem k)), (0, .ref (ad 106))]) rfl ?_
    refine z_eq (ws' := (cw ad cI cR cS mem)) (lv' := [(4, .int 1), (3, .int (fStanding mem 0)), (2, .int (fFalls mem 0)), (1, .int (fPeople mem 0)), (0, .ref (ad 106))]) (st' := []) rfl (by rw [hk4, zSs_all, zSf_all, zSp_all]) rfl ?_
    refine z_aload_n E dL_areSums_181 rfl 4 rfl ?_
    refine z_iconst (v := 3) E dL_areSums_182 (by decide) ?_
    refine z_callViN E hZ (k_count l D ad cI cR cS cL mem (c0 := 0) (s0 := 0) hl 3  (fun E u h => zno (dCnt3 mem) h)) gL_areSums_X5_count (n := 1) rfl rfl rfl (by decide +kernel) rfl ⟨(Nat.le_of_ble_eq_true rfl), (Nat.le_of_ble_eq_true rfl)⟩ (C := RX5) rfl 106 cw_lad (As := [.int 3]) (rest := []) rfl (Nat.le_of_ble_eq_true rfl) ⟨(Nat.le_of_ble_eq_true rfl), (Nat.le_of_ble_eq_true rfl)⟩ dL_areSums_183 (fun E u h => zno (dCnt3 mem) h) (fun r u hp => ?_)
    rw [(zyes (dCnt3 mem) hp).1, (zyes (dCnt3 mem) hp).2]
    refine z_istore (lv' := [(5, .int (mem 87 1)), (4, .int 1), (3, .int (fStanding mem 0)), (2, .int (fFalls mem 0)), (1, .int (fPeople mem 0)), (0, .ref (ad 106))]) E dL_areSums_186 (by decide) rfl ?_
    refine z_iload_n E dL_areSums_188 rfl 4 rfl ?_
    refine z_iload E dL_areSums_189 0 rfl ?_
    refine z_iadd E dL_areSums_191 ?_
    refine z_if_ne (tgt := 199) E dL_areSums_192 (by decide) (fun c192 => ?_) (fun c192 => ?_)
    · skip
      refine z_iload_n E dL_areSums_199 rfl 4 rfl ?_
      refine z_i2d E dL_areSums_200 ?_
      refine z_dconst1 E dL_areSums_201 ?_
      refine z_dmul E dL_areSums_202 (by rw [s1]; exact s2) ?_
      refine z_iload_n E dL_areSums_203 rfl 4 rfl ?_
      refine z_iload E dL_areSums_204 0 rfl ?_
      refine z_iadd E dL_areSums_206 ?_
      refine z_i2d E dL_areSums_207 ?_
      refine z_ddiv E dL_areSums_208 (by rw [s1]; exact hnn c192) ?_
      refine z_dstore (lv' := [(6, .double (FP.ddiv (FP.dmul (FP.i2d (fPeople mem 0)) 4607182418800017408) (FP.i2d ((fPeople mem 0) + (mem 87 1))))), (5, .int (mem 87 1)), (4, .int 1), (3, .int (fStanding mem 0)), (2, .int (fFalls mem 0)), (1, .int (fPeople mem 0)), (0, .ref (ad 106))]) E dL_areSums_209 (by decide) rfl ?_
      refine z_iload E dL_areSums_211 2 rfl ?_
      refine z_if_eq_f (tgt := 271) E dL_areSums_213 (by decide) (by decide) ?_
      refine z_iload_n E dL_areSums_216 rfl 5 rfl ?_
      refine z_aload_n E dL_areSums_217 rfl 6 rfl ?_
      refine z_iconst (v := 1) E dL_areSums_218 (by decide) ?_
      refine z_callViN E hZ (k_count l D ad cI cR cS cL mem (c0 := 0) (s0 := 0) hl 1  (fun E u h => zno (dCnt1 mem) h)) gL_areSums_X5_count (n := 1) rfl rfl rfl (by decide +kernel) rfl ⟨(Nat.le_of_ble_eq_true rfl), (Nat.le_of_ble_eq_true rfl)⟩ (C := RX5) rfl 106 cw_lad (As := [.int 1]) (rest := [.int (fPeople mem 0)]) rfl (Nat.le_of_ble_eq_true rfl) ⟨(Nat.le_of_ble_eq_true rfl), (Nat.le_of_ble_eq_true rfl)⟩ dL_areSums_219 (fun E u h => zno (dCnt1 mem) h) (fun r u hp => ?_)
      rw [(zyes (dCnt1 mem) hp).1, (zyes (dCnt1 mem) hp).2]
      refine z_icmp_ne_f (tgt := 271) E dL_areSums_222 (by decide) rfl ?_
      refine z_iload_n E dL_areSums_225 rfl 4 rfl ?_
      refine z_aload_n E dL_areSums_226 rfl 6 rfl ?_
      refine z_iconst (v := 2) E dL_areSums_227 (by decide) ?_
      refine z_callViN E hZ (k_count l D ad cI cR cS cL mem (c0 := 0) (s0 := 0) hl 2  (fun E u h => zno (dCnt2 mem) h)) gL_areSums_X5_count (n := 1) rfl rfl rfl (by decide +kernel) rfl ⟨(Nat.le_of_ble_eq_true rfl), (Nat.le_of_ble_eq_true rfl)⟩ (C := RX5) rfl 106 cw_lad (As := [.int 2]) (rest := [.int (fFalls mem 0)]) rfl (Nat.le_of_ble_eq_true rfl) ⟨(Nat.le_of_ble_eq_true rfl), (Nat.le_of_ble_eq_true rfl)⟩ dL_areSums_228 (fun E u h => zno (dCnt2 mem) h) (fun r u hp => ?_)
      rw [(zyes (dCnt2 mem) hp).1, (zyes (dCnt2 mem) hp).2]
      refine z_icmp_ne_f (tgt := 271) E dL_areSums_231 (by decide) rfl ?_
      refine z_iload_n E dL_areSums_234 rfl 3 rfl ?_
      refine z_aload_n E dL_areSums_235 rfl 6 rfl ?_
      refine z_iconst (v := 0) E dL_areSums_236 (by decide) ?_
      refine z_callViN E hZ (k_count l D ad cI cR cS cL mem (c0 := 0) (s0 := 0) hl 0  (fun E u h => zno (dCnt0 mem) h)) gL_areSums_X5_count (n := 1) rfl rfl rfl (by decide +kernel) rfl ⟨(Nat.le_of_ble_eq_true rfl), (Nat.le_of_ble_eq_true rfl)⟩ (C := RX5) rfl 106 cw_lad (As := [.int 0]) (rest := [.int (fStanding mem 0)]) rfl (Nat.le_of_ble_eq_true rfl) ⟨(Nat.le_of_ble_eq_true rfl), (Nat.le_of_ble_eq_true rfl)⟩ dL_areSums_237 (fun E u h => zno (dCnt0 mem) h) (fun r u hp => ?_)
      rw [(zyes (dCnt0 mem) hp).1, (zyes (dCnt0 mem) hp).2]
      refine z_icmp_ne_f (tgt := 271) E dL_areSums_240 (by decide) rfl ?_
      refine z_iload E dL_areSums_243 1 rfl ?_
      refine z_iload_n E dL_areSums_245 rfl 4 rfl ?_
      refine z_icmp_lt_f (tgt := 271) E dL_areSums_246 (by decide) f1 ?_
      refine z_iload E dL_areSums_249 1 rfl ?_
      refine z_iconst (v := 3) E dL_areSums_251 (by decide) ?_
      refine z_iload_n E dL_areSums_252 rfl 4 rfl ?_
      refine z_imul E dL_areSums_253 ?_
      refine z_icmp_gt_f (tgt := 271) E dL_areSums_254 (by decide) f2 ?_
      refine z_aload_n E dL_areSums_257 rfl 6 rfl ?_
      refine z_callVd E hZ (k_safety l D ad cI cR cS cL mem hnn) gL_areSums_X5_safety (n := 0) rfl rfl rfl (by decide +kernel) rfl ⟨(Nat.le_of_ble_eq_true rfl), (Nat.le_of_ble_eq_true rfl)⟩ (C := RX5) rfl 106 cw_lad (As := []) (rest := []) rfl (Nat.le_of_ble_eq_true rfl) ⟨(Nat.le_of_ble_eq_true rfl), (Nat.le_of_ble_eq_true rfl)⟩ dL_areSums_258 (fun r u hp => ?_)
      rw [hp.1, hp.2]
      refine z_dload E dL_areSums_261 0 rfl ?_
      refine z_dcmp E dL_areSums_263 ?_
      refine z_if_ne_f (tgt := 271) E dL_areSums_264 (by decide) (by rw [show FP.ddiv (FP.dmul (FP.i2d (fPeople mem 0)) 4607182418800017408) (FP.i2d (fPeople mem 0 + mem 87 1)) = fSafe mem from by rw [s1]; exact (if_neg c192).symm, s3]; rfl) ?_
      refine z_iconst (v := 1) E dL_areSums_267 (by decide) ?_
      refine z_goto (tgt := 272) E dL_areSums_268 (by decide) ?_
      exact z_izretM E hr hlocks (()) rfl rfl rfl (Nat.le_of_ble_eq_true rfl) (Nat.le_of_ble_eq_true rfl) dL_areSums_272
    · skip
      refine z_dconst1 E dL_areSums_195 ?_
      refine z_goto (tgt := 209) E dL_areSums_196 (by decide) ?_
      refine z_dstore (lv' := [(6, .double 4607182418800017408), (5, .int (mem 87 1)), (4, .int 1), (3, .int (fStanding mem 0)), (2, .int (fFalls mem 0)), (1, .int (fPeople mem 0)), (0, .ref (ad 106))]) E dL_areSums_209 (by decide) rfl ?_
      refine z_iload E dL_areSums_211 2 rfl ?_
      refine z_if_eq_f (tgt := 271) E dL_areSums_213 (by decide) (by decide) ?_
      refine z_iload_n E dL_areSums_216 rfl 5 rfl ?_
      refine z_aload_n E dL_areSums_217 rfl 6 rfl ?_
      refine z_iconst (v := 1) E dL_areSums_218 (by decide) ?_
      refine z_callViN E hZ (k_count l D ad cI cR cS cL mem (c0 := 0) (s0 := 0) hl 1  (fun E u h => zno (dCnt1 mem) h)) gL_areSums_X5_count (n := 1) rfl rfl rfl (by decide +kernel) rfl ⟨(Nat.le_of_ble_eq_true rfl), (Nat.le_of_ble_eq_true rfl)⟩ (C := RX5) rfl 106 cw_lad (As := [.int 1]) (rest := [.int (fPeople mem 0)]) rfl (Nat.le_of_ble_eq_true rfl) ⟨(Nat.le_of_ble_eq_true rfl), (Nat.le_of_ble_eq_true rfl)⟩ dL_areSums_219 (fun E u h => zno (dCnt1 mem) h) (fun r u hp => ?_)
      rw [(zyes (dCnt1 mem) hp).1, (zyes (dCnt1 mem) hp).2]
      refine z_icmp_ne_f (tgt := 271) E dL_areSums_222 (by decide) rfl ?_
      refine z_iload_n E dL_areSums_225 rfl 4 rfl ?_
      refine z_aload_n E dL_areSums_226 rfl 6 rfl ?_
      refine z_iconst (v := 2) E dL_areSums_227 (by decide) ?_
      refine z_callViN E hZ (k_count l D ad cI cR cS cL mem (c0 := 0) (s0 := 0) hl 2  (fun E u h => zno (dCnt2 mem) h)) gL_areSums_X5_count (n := 1) rfl rfl rfl (by decide +kernel) rfl ⟨(Nat.le_of_ble_eq_true rfl), (Nat.le_of_ble_eq_true rfl)⟩ (C := RX5) rfl 106 cw_lad (As := [.int 2]) (rest := [.int (fFalls mem 0)]) rfl (Nat.le_of_ble_eq_true rfl) ⟨(Nat.le_of_ble_eq_true rfl), (Nat.le_of_ble_eq_true rfl)⟩ dL_areSums_228 (fun E u h => zno (dCnt2 mem) h) (fun r u hp => ?_)
      rw [(zyes (dCnt2 mem) hp).1, (zyes (dCnt2 mem) hp).2]
      refine z_icmp_ne_f (tgt := 271) E dL_areSums_231 (by decide) rfl ?_
      refine z_iload_n E dL_areSums_234 rfl 3 rfl ?_
      refine z_aload_n E dL_areSums_235 rfl 6 rfl ?_
      refine z_iconst (v := 0) E dL_areSums_236 (by decide) ?_
      refine z_callViN E hZ (k_count l D ad cI cR cS cL mem (c0 := 0) (s0 := 0) hl 0  (fun E u h => zno (dCnt0 mem) h)) gL_areSums_X5_count (n := 1) rfl rfl rfl (by decide +kernel) rfl ⟨(Nat.le_of_ble_eq_true rfl), (Nat.le_of_ble_eq_true rfl)⟩ (C := RX5) rfl 106 cw_lad (As := [.int 0]) (rest := [.int (fStanding mem 0)]) rfl (Nat.le_of_ble_eq_true rfl) ⟨(Nat.le_of_ble_eq_true rfl), (Nat.le_of_ble_eq_true rfl)⟩ dL_areSums_237 (fun E u h => zno (dCnt0 mem) h) (fun r u hp => ?_)
      rw [(zyes (dCnt0 mem) hp).1, (zyes (dCnt0 mem) hp).2]
      refine z_icmp_ne_f (tgt := 271) E dL_areSums_240 (by decide) rfl ?_
      refine z_iload E dL_areSums_243 1 rfl ?_
      refine z_iload_n E dL_areSums_245 rfl 4 rfl ?_
      refine z_icmp_lt_f (tgt := 271) E dL_areSums_246 (by decide) f1 ?_
      refine z_iload E dL_areSums_249 1 rfl ?_
      refine z_iconst (v := 3) E dL_areSums_251 (by decide) ?_
      refine z_iload_n E dL_areSums_252 rfl 4 rfl ?_
      refine z_imul E dL_areSums_253 ?_
      refine z_icmp_gt_f (tgt := 271) E dL_areSums_254 (by decide) f2 ?_
      refine z_aload_n E dL_areSums_257 rfl 6 rfl ?_
      refine z_callVd E hZ (k_safety l D ad cI cR cS cL mem hnn) gL_areSums_X5_safety (n := 0) rfl rfl rfl (by decide +kernel) rfl ⟨(Nat.le_of_ble_eq_true rfl), (Nat.le_of_ble_eq_true rfl)⟩ (C := RX5) rfl 106 cw_lad (As := []) (rest := []) rfl (Nat.le_of_ble_eq_true rfl) ⟨(Nat.le_of_ble_eq_true rfl), (Nat.le_of_ble_eq_true rfl)⟩ dL_areSums_258 (fun r u hp => ?_)
      rw [hp.1, hp.2]
      refine z_dload E dL_areSums_261 0 rfl ?_
      refine z_dcmp E dL_areSums_263 ?_
      refine z_if_ne_f (tgt := 271) E dL_areSums_264 (by decide) (by rw [show (4607182418800017408 : UInt64) = fSafe mem from (if_pos c192).symm, s3]; rfl) ?_
      refine z_iconst (v := 1) E dL_areSums_267 (by decide) ?_
      refine z_goto (tgt := 272) E dL_areSums_268 (by decide) ?_
      exact z_izretM E hr hlocks (()) rfl rfl rfl (Nat.le_of_ble_eq_true rfl) (Nat.le_of_ble_eq_true rfl) dL_areSums_272
  · skip
    have hk : k < 4 := zklt (k := k) (L := 4) (by omega) (by omega) c15
    obtain ⟨hfd, pp, hpp⟩ := hok k hk
    have h7 := hpp.2.1
    have hpp3 := hpp.1
    refine z_iload_n E dL_areSums_18 rfl 4 rfl ?_
    refine z_aload_n E dL_areSums_19 rfl 5 rfl ?_
    refine z_iload E dL_areSums_20 0 rfl ?_
    refine z_bipush (v := 6) E dL_areSums_22 (by decide) ?_
    refine z_callViN E hZ (k_ladder l D ad cI cR cS cL mem (c0 := 0) (s0 := 0) hl (nI k) 6  (fun E u h => zno (dLad6 zTr.rfl' hk) h)) gL_areSums_X5_ladder (n := 2) rfl rfl rfl (by decide +kernel) rfl ⟨(Nat.le_of_ble_eq_true rfl), (Nat.le_of_ble_eq_true rfl)⟩ (C := RX5) rfl 106 cw_lad (As := [.int (nI k), .int 6]) (rest := [.int (zSp mem k)]) rfl (Nat.le_of_ble_eq_true rfl) ⟨(Nat.le_of_ble_eq_true rfl), (Nat.le_of_ble_eq_true rfl)⟩ dL_areSums_24 (fun E u h => zno (dLad6 zTr.rfl' hk) h) (fun r u hp => ?_)
    rw [(zyes (dLad6 zTr.rfl' hk) hp).1, (zyes (dLad6 zTr.rfl' hk) hp).2]
    refine z_iadd E dL_areSums_27 ?_
    refine z_istore_n (lv' := [(1, .int ((zSp mem k) + ((rv mem k) 7))), (5, .int (nI k)), (4, .int 1), (3, .int (zSs mem k)), (2, .int (zSf mem k)), (0, .ref (ad 106))]) E dL_areSums_28 rfl (by decide) rfl ?_
    refine z_iload_n E dL_areSums_29 rfl 4 rfl ?_
    refine z_aload_n E dL_areSums_30 rfl 5 rfl ?_
    refine z_iload E dL_areSums_31 1 rfl ?_
    refine z_bipush (v := 9) E dL_areSums_33 (by decide) ?_
    refine z_callViN E hZ (k_ladder l D ad cI cR cS cL mem (c0 := 0) (s0 := 0) hl (nI k) 9  (fun E u h => zno (dLad9 zTr.rfl' hk) h)) gL_areSums_X5_ladder (n := 2) rfl rfl rfl (by decide +kernel) rfl ⟨(Nat.le_of_ble_eq_true rfl), (Nat.le_of_ble_eq_true rfl)⟩ (C := RX5) rfl 106 cw_lad (As := [.int (nI k), .int 9]) (rest := [.int (zSf mem k)]) rfl (Nat.le_of_ble_eq_true rfl) ⟨(Nat.le_of_ble_eq_true rfl), (Nat.le_of_ble_eq_true rfl)⟩ dL_areSums_35 (fun E u h => zno (dLad9 zTr.rfl' hk) h) (fun r u hp => ?_)
    rw [(zyes (dLad9 zTr.rfl' hk) hp).1, (zyes (dLad9 zTr.rfl' hk) hp).2]
    refine z_iadd E dL_areSums_38 ?_
    refine z_istore_n (lv' := [(2, .int ((zSf mem k) + ((rv mem k) 6))), (1, .int ((zSp mem k) + ((rv mem k) 7))), (5, .int (nI k)), (4, .int 1), (3, .int (zSs mem k)), (0, .ref (ad 106))]) E dL_areSums_39 rfl (by decide) rfl ?_
    refine z_iload_n E dL_areSums_40 rfl 4 rfl ?_
    refine z_aload_n E dL_areSums_41 rfl 5 rfl ?_
    refine z_iload E dL_areSums_42 2 rfl ?_
    refine z_bipush (v := 10) E dL_areSums_44 (by decide) ?_
    refine z_callViN E hZ (k_ladder l D ad cI cR cS cL mem (c0 := 0) (s0 := 0) hl (nI k) 10  (fun E u h => zno (dLad10 zTr.rfl' hk) h)) gL_areSums_X5_ladder (n := 2) rfl rfl rfl (by decide +kernel) rfl ⟨(Nat.le_of_ble_eq_true rfl), (Nat.le_of_ble_eq_true rfl)⟩ (C := RX5) rfl 106 cw_lad (As := [.int (nI k), .int 10]) (rest := [.int (zSs mem k)]) rfl (Nat.le_of_ble_eq_true rfl) ⟨(Nat.le_of_ble_eq_true rfl), (Nat.le_of_ble_eq_true rfl)⟩ dL_areSums_46 (fun E u h => zno (dLad10 zTr.rfl' hk) h) (fun r u hp => ?_)
    rw [(zyes (dLad10 zTr.rfl' hk) hp).1, (zyes (dLad10 zTr.rfl' hk) hp).2]
    refine z_iadd E dL_areSums_49 ?_
    refine z_istore_n (lv' := [(3, .int ((zSs mem k) + (fStands (rv mem k)))), (2, .int ((zSf mem k) + ((rv mem k) 6))), (1, .int ((zSp mem k) + ((rv mem k) 7))), (5, .int (nI k)), (4, .int 1), (0, .ref (ad 106))]) E dL_areSums_50 rfl (by decide) rfl ?_
    refine z_iload E dL_areSums_51 4 rfl ?_
    refine z_if_eq_f (tgt := 83) E dL_areSums_53 (by decide) (by decide) ?_
    refine z_aload_n E dL_areSums_56 rfl 5 rfl ?_
    refine z_iload E dL_areSums_57 3 rfl ?_
    refine z_bipush (v := 6) E dL_areSums_59 (by decide) ?_
    refine z_callViN E hZ (k_ladder l D ad cI cR cS cL mem (c0 := 0) (s0 := 0) hl (nI k) 6  (fun E u h => zno (dLad6 zTr.rfl' hk) h)) gL_areSums_X5_ladder (n := 2) rfl rfl rfl (by decide +kernel) rfl ⟨(Nat.le_of_ble_eq_true rfl), (Nat.le_of_ble_eq_true rfl)⟩ (C := RX5) rfl 106 cw_lad (As := [.int (nI k), .int 6]) (rest := []) rfl (Nat.le_of_ble_eq_true rfl) ⟨(Nat.le_of_ble_eq_true rfl), (Nat.le_of_ble_eq_true rfl)⟩ dL_areSums_61 (fun E u h => zno (dLad6 zTr.rfl' hk) h) (fun r u hp => ?_)
    rw [(zyes (dLad6 zTr.rfl' hk) hp).1, (zyes (dLad6 zTr.rfl' hk) hp).2]
    refine z_if_lt_f (tgt := 83) E dL_areSums_64 (by decide) (by rw [h7]; exact nI_pos (by omega)) ?_
    refine z_aload_n E dL_areSums_67 rfl 5 rfl ?_
    refine z_iload E dL_areSums_68 3 rfl ?_
    refine z_bipush (v := 6) E dL_areSums_70 (by decide) ?_
    refine z_callViN E hZ (k_ladder l D ad cI cR cS cL mem (c0 := 0) (s0 := 0) hl (nI k) 6  (fun E u h => zno (dLad6 zTr.rfl' hk) h)) gL_areSums_X5_ladder (n := 2) rfl rfl rfl (by decide +kernel) rfl ⟨(Nat.le_of_ble_eq_true rfl), (Nat.le_of_ble_eq_true rfl)⟩ (C := RX5) rfl 106 cw_lad (As := [.int (nI k), .int 6]) (rest := []) rfl (Nat.le_of_ble_eq_true rfl) ⟨(Nat.le_of_ble_eq_true rfl), (Nat.le_of_ble_eq_true rfl)⟩ dL_areSums_72 (fun E u h => zno (dLad6 zTr.rfl' hk) h) (fun r u hp => ?_)
    rw [(zyes (dLad6 zTr.rfl' hk) hp).1, (zyes (dLad6 zTr.rfl' hk) hp).2]
    refine z_iconst (v := 4) E dL_areSums_75 (by decide) ?_
    refine z_icmp_ge_f (tgt := 83) E dL_areSums_76 (by decide) (by rw [h7]; exact fun q => by have := (nI_leI (a := 4) (b := pp) (by omega) (by omega)).mp q; omega) ?_
    refine z_iconst (v := 1) E dL_areSums_79 (by decide) ?_
    refine z_goto (tgt := 84) E dL_areSums_80 (by decide) ?_
    refine z_istore (lv' := [(4, .int 1), (3, .int ((zSs mem k) + (fStands (rv mem k)))), (2, .int ((zSf mem k) + ((rv mem k) 6))), (1, .int ((zSp mem k) + ((rv mem k) 7))), (5, .int (nI k)), (0, .ref (ad 106))]) E dL_areSums_84 (by decide) rfl ?_
    refine z_iconst (v := 0) E dL_areSums_86 (by decide) ?_
    refine z_istore (lv' := [(6, .int 0), (4, .int 1), (3, .int ((zSs mem k) + (fStands (rv mem k)))), (2, .int ((zSf mem k) + ((rv mem k) 6))), (1, .int ((zSp mem k) + ((rv mem k) 7))), (5, .int (nI k)), (0, .ref (ad 106))]) E dL_areSums_87 (by decide) rfl ?_
    refine z_lv [0, 5, 1, 2, 3, 4, 6] (lv' := [(6, .int 0), (5, .int (nI k)), (4, .int 1), (3, .int ((zSs mem k) + (fStands (rv mem k)))), (2, .int ((zSf mem k) + ((rv mem k) 6))), (1, .int ((zSp mem k) + ((rv mem k) 7))), (0, .ref (ad 106))]) rfl ?_
    refine z_loop (σ := Nat) (fun n y => y + n = pp) (fun _ => (cw ad cI cR cS mem)) (fun y => [(6, .int (nI y)), (5, .int (nI k)), (4, .int 1), (3, .int ((zSs mem k) + (fStands (rv mem k)))), (2, .int ((zSf mem k) + ((rv mem k) 6))), (1, .int ((zSp mem k) + ((rv mem k) 7))), (0, .ref (ad 106))]) 89 0 0 ?_ pp 0 (Nat.zero_add _) rfl rfl rfl rfl rfl
    rintro n89 t hi89 ih89
    refine z_iload E dL_areSums_89 0 rfl ?_
    refine z_aload_n E dL_areSums_91 rfl 6 rfl ?_
    refine z_iload E dL_areSums_92 1 rfl ?_
    refine z_bipush (v := 6) E dL_areSums_94 (by decide) ?_
    refine z_callViN E hZ (k_ladder l D ad cI cR cS cL mem (c0 := 0) (s0 := 0) hl (nI k) 6  (fun E u h => zno (dLad6 zTr.rfl' hk) h)) gL_areSums_X5_ladder (n := 2) rfl rfl rfl (by decide +kernel) rfl ⟨(Nat.le_of_ble_eq_true rfl), (Nat.le_of_ble_eq_true rfl)⟩ (C := RX5) rfl 106 cw_lad (As := [.int (nI k), .int 6]) (rest := [.int (nI t)]) rfl (Nat.le_of_ble_eq_true rfl) ⟨(Nat.le_of_ble_eq_true rfl), (Nat.le_of_ble_eq_true rfl)⟩ dL_areSums_96 (fun E u h => zno (dLad6 zTr.rfl' hk) h) (fun r u hp => ?_)
    rw [(zyes (dLad6 zTr.rfl' hk) hp).1, (zyes (dLad6 zTr.rfl' hk) hp).2]
    refine z_eq (ws' := cw ad cI cR cS mem) (lv' := [(6, .int (nI t)), (5, .int (nI k)), (4, .int 1), (3, .int ((zSs mem k) + (fStands (rv mem k)))), (2, .int ((zSf mem k) + ((rv mem k) 6))), (1, .int ((zSp mem k) + ((rv mem k) 7))), (0, .ref (ad 106))]) (st' := [.int (nI pp), .int (nI t)]) rfl rfl (by rw [h7]) ?_
    refine z_icmp_ge (tgt := 175) E dL_areSums_99 (by decide) (fun c99 => ?_) (fun c99 => ?_)
    · skip
      refine z_iinc (v := nI k + 1) (lv' := [(5, .int (nI k + 1)), (6, .int (nI t)), (4, .int 1), (3, .int ((zSs mem k) + (fStands (rv mem k)))), (2, .int ((zSf mem k) + ((rv mem k) 6))), (1, .int ((zSp mem k) + ((rv mem k) 7))), (0, .ref (ad 106))]) E dL_areSums_175 (q := 1) rfl rfl (by decide) rfl ?_
      refine z_goto (tgt := 12) E dL_areSums_178 (by decide) ?_
      refine z_lv [0, 2, 3, 4, 5, 6] (lv' := [(5, .int (nI k + 1)), (4, .int 1), (3, .int ((zSs mem k) + (fStands (rv mem k)))), (2, .int ((zSf mem k) + ((rv mem k) 6))), (1, .int ((zSp mem k) + ((rv mem k) 7))), (0, .ref (ad 106))]) rfl ?_
      refine z_eq (ws' := (cw ad cI cR cS mem)) (lv' := [(5, .int (nI (k + 1))), (4, .int 1), (3, .int (zSs mem (k + 1))), (2, .int (zSf mem (k + 1))), (1, .int (zSp mem (k + 1))), (0, .ref (ad 106))]) (st' := []) rfl (by rw [← nI_1 k]; rfl) rfl ?_
      exact ih12 (n12 - 1) (k + 1) (by omega) (by omega)
    · skip
      have ht : t < pp := zklt (k := t) (L := pp) (by omega) (by omega) c99
      refine z_iload E dL_areSums_102 2 rfl ?_
      refine z_if_eq_f (tgt := 166) E dL_areSums_104 (by decide) (by decide) ?_
      refine z_aload_n E dL_areSums_107 rfl 6 rfl ?_
      refine z_iload E dL_areSums_108 1 rfl ?_
      refine z_iload E dL_areSums_110 0 rfl ?_
      refine z_iconst (v := 0) E dL_areSums_112 (by decide) ?_
      refine z_callViN E hZ (k_person l D ad cI cR cS cL mem (c0 := 0) (s0 := 0) hl (nI k) (nI t) 0  (fun E u h => zno (dPer0 zTr.rfl' hk h7 hpp3 ht) h)) gL_areSums_X5_person (n := 3) rfl rfl rfl (by decide +kernel) rfl ⟨(Nat.le_of_ble_eq_true rfl), (Nat.le_of_ble_eq_true rfl)⟩ (C := RX5) rfl 106 cw_lad (As := [.int (nI k), .int (nI t), .int 0]) (rest := []) rfl (Nat.le_of_ble_eq_true rfl) ⟨(Nat.le_of_ble_eq_true rfl), (Nat.le_of_ble_eq_true rfl)⟩ dL_areSums_113 (fun E u h => zno (dPer0 zTr.rfl' hk h7 hpp3 ht) h) (fun r u hp => ?_)
      rw [(zyes (dPer0 zTr.rfl' hk h7 hpp3 ht) hp).1, (zyes (dPer0 zTr.rfl' hk h7 hpp3 ht) hp).2]
      refine z_bipush (v := 19) E dL_areSums_116 (by decide) ?_
      refine z_icmp_le_f (tgt := 166) E dL_areSums_118 (by decide) (perR hpp ht).1 ?_
      refine z_aload_n E dL_areSums_121 rfl 6 rfl ?_
      refine z_iload E dL_areSums_122 1 rfl ?_
      refine z_iload E dL_areSums_124 0 rfl ?_
      refine z_iconst (v := 0) E dL_areSums_126 (by decide) ?_
      refine z_callViN E hZ (k_person l D ad cI cR cS cL mem (c0 := 0) (s0 := 0) hl (nI k) (nI t) 0  (fun E u h => zno (dPer0 zTr.rfl' hk h7 hpp3 ht) h)) gL_areSums_X5_person (n := 3) rfl rfl rfl (by decide +kernel) rfl ⟨(Nat.le_of_ble_eq_true rfl), (Nat.le_of_ble_eq_true rfl)⟩ (C := RX5) rfl 106 cw_lad (As := [.int (nI k), .int (nI t), .int 0]) (rest := []) rfl (Nat.le_of_ble_eq_true rfl) ⟨(Nat.le_of_ble_eq_true rfl), (Nat.le_of_ble_eq_true rfl)⟩ dL_areSums_127 (fun E u h => zno (dPer0 zTr.rfl' hk h7 hpp3 ht) h) (fun r u hp => ?_)
      rw [(zyes (dPer0 zTr.rfl' hk h7 hpp3 ht) hp).1, (zyes (dPer0 zTr.rfl' hk h7 hpp3 ht) hp).2]
      refine z_sipush (v := 151) E dL_areSums_130 (by decide) ?_
      refine z_icmp_ge_f (tgt := 166) E dL_areSums_133 (by decide) (perR hpp ht).2.1 ?_
      refine z_aload_n E dL_areSums_136 rfl 6 rfl ?_
      refine z_iload E dL_areSums_137 1 rfl ?_
      refine z_iload E dL_areSums_139 0 rfl ?_
      refine z_iconst (v := 1) E dL_areSums_141 (by decide) ?_
      refine z_callViN E hZ (k_person l D ad cI cR cS cL mem (c0 := 0) (s0 := 0) hl (nI k) (nI t) 1  (fun E u h => zno (dPer1 zTr.rfl' hk h7 hpp3 ht) h)) gL_areSums_X5_person (n := 3) rfl rfl rfl (by decide +kernel) rfl ⟨(Nat.le_of_ble_eq_true rfl), (Nat.le_of_ble_eq_true rfl)⟩ (C := RX5) rfl 106 cw_lad (As := [.int (nI k), .int (nI t), .int 1]) (rest := []) rfl (Nat.le_of_ble_eq_true rfl) ⟨(Nat.le_of_ble_eq_true rfl), (Nat.le_of_ble_eq_true rfl)⟩ dL_areSums_142 (fun E u h => zno (dPer1 zTr.rfl' hk h7 hpp3 ht) h) (fun r u hp => ?_)
      rw [(zyes (dPer1 zTr.rfl' hk h7 hpp3 ht) hp).1, (zyes (dPer1 zTr.rfl' hk h7 hpp3 ht) hp).2]
      refine z_if_lt_f (tgt := 166) E dL_areSums_145 (by decide) (perR hpp ht).2.2.1 ?_
      refine z_aload_n E dL_areSums_148 rfl 6 rfl ?_
      refine z_iload E dL_areSums_149 1 rfl ?_
      refine z_iload E dL_areSums_151 0 rfl ?_
      refine z_iconst (v := 1) E dL_areSums_153 (by decide) ?_
      refine z_callViN E hZ (k_person l D ad cI cR cS cL mem (c0 := 0) (s0 := 0) hl (nI k) (nI t) 1  (fun E u h => zno (dPer1 zTr.rfl' hk h7 hpp3 ht) h)) gL_areSums_X5_person (n := 3) rfl rfl rfl (by decide +kernel) rfl ⟨(Nat.le_of_ble_eq_true rfl), (Nat.le_of_ble_eq_true rfl)⟩ (C := RX5) rfl 106 cw_lad (As := [.int (nI k), .int (nI t), .int 1]) (rest := []) rfl (Nat.le_of_ble_eq_true rfl) ⟨(Nat.le_of_ble_eq_true rfl), (Nat.le_of_ble_eq_true rfl)⟩ dL_areSums_154 (fun E u h => zno (dPer1 zTr.rfl' hk h7 hpp3 ht) h) (fun r u hp => ?_)
      rw [(zyes (dPer1 zTr.rfl' hk h7 hpp3 ht) hp).1, (zyes (dPer1 zTr.rfl' hk h7 hpp3 ht) hp).2]
      refine z_bipush (v := 11) E dL_areSums_157 (by decide) ?_
      refine z_icmp_ge_f (tgt := 166) E dL_areSums_159 (by decide) (perR hpp ht).2.2.2 ?_
      refine z_iconst (v := 1) E dL_areSums_162 (by decide) ?_
      refine z_goto (tgt := 167) E dL_areSums_163 (by decide) ?_
      refine z_istore (lv' := [(4, .int 1), (6, .int (nI t)), (5, .int (nI k)), (3, .int ((zSs mem k) + (fStands (rv mem k)))), (2, .int ((zSf mem k) + ((rv mem k) 6))), (1, .int ((zSp mem k) + ((rv mem k) 7))), (0, .ref (ad 106))]) E dL_areSums_167 (by decide) rfl ?_
      refine z_iinc (v := nI t + 1) (lv' := [(6, .int (nI t + 1)), (4, .int 1), (5, .int (nI k)), (3, .int ((zSs mem k) + (fStands (rv mem k)))), (2, .int ((zSf mem k) + ((rv mem k) 6))), (1, .int ((zSp mem k) + ((rv mem k) 7))), (0, .ref (ad 106))]) E dL_areSums_169 (q := 1) rfl rfl (by decide) rfl ?_
      refine z_goto (tgt := 89) E dL_areSums_172 (by decide) ?_
      refine z_lv [0, 2, 1, 3, 4, 5, 6] (lv' := [(6, .int (nI t + 1)), (5, .int (nI k)), (4, .int 1), (3, .int ((zSs mem k) + (fStands (rv mem k)))), (2, .int ((zSf mem k) + ((rv mem k) 6))), (1, .int ((zSp mem k) + ((rv mem k) 7))), (0, .ref (ad 106))]) rfl ?_
      refine z_eq (ws' := (cw ad cI cR cS mem)) (lv' := [(6, .int (nI (t + 1))), (5, .int (nI k)), (4, .int 1), (3, .int ((zSs mem k) + (fStands (rv mem k)))), (2, .int ((zSf mem k) + ((rv mem k) 6))), (1, .int ((zSp mem k) + ((rv mem k) 7))), (0, .ref (ad 106))]) (st' := []) rfl (by rw [← nI_1 t]) rfl ?_
      exact ih89 (n89 - 1) (t + 1) (by omega) (by omega)
