/-! the law, call by call -/
section ZLC
variable {p : Program} {l : Launch} {e : Env} {s : State} {m : MethodId} {args : Array Value} {below : List Frame} {meth : Method} {c : Code} {D : va_G} {A : Nat → Prop} {Q : State → Prop} {ad am : Nat → Nat} {cI cR cS cL : ClassId} {o b Ls : Nat} {xs : Nat → Int32} {cells slots i : Nat} {B q z L : Nat} {cm mm : zM} {dg : Int64} {f : Nat → Int64}
set_option maxHeartbeats 1000000 in
set_option maxRecDepth 100000 in
theorem lc_put (hl : l.stackTraces = false) (E : zE p s m args c D (cK cI cR cS cL) A 9 cL_law RL wsL_law) (hZ : zSK A s s.heap) (hN : zNC s) (hX : va_X b Ls xs s s.heap) (hbl : b < s.heap.size) (hbA : ¬ A b) (hi : i + 5 ≤ Ls) (hLs : Ls ≤ 2560) (hroom : cells + 1 ≤ room_1.cells ∧ slots + 6 ≤ room_1.slots) (hB : B ≤ 1000000) (hR : zR B cm mm q z L) (K : ∀ (c2 m2 : zM) (d2 : Int64) (f2 : Nat → Int64) (q2 z2 L2 : Nat), zR (B + 180) c2 m2 q2 z2 L2 → zW p l e room_1 s m args below meth c D A Q 9 (mw am cI d2 m2 ++ (cw ad cI cR cS c2 ++ [oE cL o f2])) (cells + 1) (slots + 6) 1457 [(4, .int (nI i)), (0, .ref b), (1, .ref (ad 106)), (2, .ref (am 0)), (3, .ref o)] []) : zW p l e room_1 s m args below meth c D A Q 9 (mw am cI dg mm ++ (cw ad cI cR cS cm ++ [oE cL o f])) cells slots 144 [(4, .int (nI i)), (0, .ref b), (1, .ref (ad 106)), (2, .ref (am 0)), (3, .ref o)] [] := by
  obtain ⟨hok, hS⟩ := zSite_0 hR.1
  have hq := hR.2.1.1
  have hn := hR.2.1.2.2.1
  have hz := hR.2.1.2.1
  have hs := hR.2.1.2.2.2.1
  have hL := hR.2.2.1
  have hlen := hR.2.2.2.1
  refine z_aload_n E dL_law_144 rfl 2 rfl ?_
  refine z_aload_n E dL_law_145 rfl 1 rfl ?_
  refine z_iload E dL_law_146 0 rfl ?_
  refine z_iconst (v := 1) E dL_law_148 (by decide) ?_
  refine z_iaddV (v := nI (i + 1)) E dL_law_149 (nI_add i 1) ?_
  obtain ⟨x1, hx1⟩ : ∃ v, xs (nI (i + 1)).toNatClampNeg = v := ⟨_, rfl⟩
  refine z_sld E hX hbl hbA (vp_in_nI (by omega) (by omega)) hx1 dL_law_150 ?_
  refine z_aload_n E dL_law_151 rfl 1 rfl ?_
  refine z_iload E dL_law_152 0 rfl ?_
  refine z_iconst (v := 2) E dL_law_154 (by decide) ?_
  refine z_iaddV (v := nI (i + 2)) E dL_law_155 (nI_add i 2) ?_
  obtain ⟨x2, hx2⟩ : ∃ v, xs (nI (i + 2)).toNatClampNeg = v := ⟨_, rfl⟩
  refine z_sld E hX hbl hbA (vp_in_nI (by omega) (by omega)) hx2 dL_law_156 ?_
  refine z_aload_n E dL_law_157 rfl 1 rfl ?_
  refine z_iload E dL_law_158 0 rfl ?_
  refine z_iconst (v := 3) E dL_law_160 (by decide) ?_
  refine z_iaddV (v := nI (i + 3)) E dL_law_161 (nI_add i 3) ?_
  obtain ⟨x3, hx3⟩ : ∃ v, xs (nI (i + 3)).toNatClampNeg = v := ⟨_, rfl⟩
  refine z_sld E hX hbl hbA (vp_in_nI (by omega) (by omega)) hx3 dL_law_162 ?_
  refine z_aload_n E dL_law_163 rfl 1 rfl ?_
  refine z_iload E dL_law_164 0 rfl ?_
  refine z_iconst (v := 4) E dL_law_166 (by decide) ?_
  refine z_iaddV (v := nI (i + 4)) E dL_law_167 (nI_add i 4) ?_
  obtain ⟨x4, hx4⟩ : ∃ v, xs (nI (i + 4)).toNatClampNeg = v := ⟨_, rfl⟩
  refine z_sld E hX hbl hbA (vp_in_nI (by omega) (by omega)) hx4 dL_law_168 ?_
  refine z_aload_n E dL_law_169 rfl 4 rfl ?_
  refine z_callSW E hZ hN ((w_put l D ad cI cR cS cL cm hl o f x1 x2 x3 x4 hq hn hz hs).frR (mw am cI dg mm)) gL_law_L_put (n := 6) rfl rfl rfl (by decide +kernel) rfl ⟨(Nat.le_of_ble_eq_true rfl), (Nat.le_of_ble_eq_true rfl)⟩ (As := [.ref (ad 106), .int x1, .int x2, .int x3, .int x4, .ref o]) (rest := []) rfl (Nat.le_of_ble_eq_true rfl) hroom dL_law_170 (fun r u hp => ?_)
  obtain ⟨c1, f1⟩ := u
  refine z_eq (ws' := mw am cI dg mm ++ (cw ad cI cR cS c1 ++ [oE cL o f1])) (lv' := [(4, .int (nI i)), (0, .ref b), (1, .ref (ad 106)), (2, .ref (am 0)), (3, .ref o)]) (st' := [.int r]) rfl rfl rfl ?_
  refine z_istore (lv' := [(5, .int r), (4, .int (nI i)), (0, .ref b), (1, .ref (ad 106)), (2, .ref (am 0)), (3, .ref o)]) E dL_law_173 (by decide) rfl ?_
  refine z_aload_n E dL_law_175 rfl 4 rfl ?_
  refine z_aload_n E dL_law_176 rfl 2 rfl ?_
  refine z_iload E dL_law_177 1 rfl ?_
  refine z_iconst (v := 1) E dL_law_179 (by decide) ?_
  refine z_iaddV (v := nI (i + 1)) E dL_law_180 (nI_add i 1) ?_
  refine z_sld E hX hbl hbA (vp_in_nI (by omega) (by omega)) hx1 dL_law_181 ?_
  refine z_aload_n E dL_law_182 rfl 2 rfl ?_
  refine z_iload E dL_law_183 1 rfl ?_
  refine z_iconst (v := 2) E dL_law_185 (by decide) ?_
  refine z_iaddV (v := nI (i + 2)) E dL_law_186 (nI_add i 2) ?_
  refine z_sld E hX hbl hbA (vp_in_nI (by omega) (by omega)) hx2 dL_law_187 ?_
  refine z_aload_n E dL_law_188 rfl 2 rfl ?_
  refine z_iload E dL_law_189 1 rfl ?_
  refine z_iconst (v := 3) E dL_law_191 (by decide) ?_
  refine z_iaddV (v := nI (i + 3)) E dL_law_192 (nI_add i 3) ?_
  refine z_sld E hX hbl hbA (vp_in_nI (by omega) (by omega)) hx3 dL_law_193 ?_
  refine z_aload_n E dL_law_194 rfl 2 rfl ?_
  refine z_iload E dL_law_195 1 rfl ?_
  refine z_iconst (v := 4) E dL_law_197 (by decide) ?_
  refine z_iaddV (v := nI (i + 4)) E dL_law_198 (nI_add i 4) ?_
  refine z_sld E hX hbl hbA (vp_in_nI (by omega) (by omega)) hx4 dL_law_199 ?_
  refine z_callVi E hZ ((k_mput l D am cI cR cS cL dg mm hR x1 x2 x3 x4).fr [] (cw ad cI cR cS c1 ++ [oE cL o f1])) gL_law_X6_put (n := 4) rfl rfl rfl (by decide +kernel) rfl ⟨(Nat.le_of_ble_eq_true rfl), (Nat.le_of_ble_eq_true rfl)⟩ (C := RX6) rfl 0 lw_mod (As := [.int x1, .int x2, .int x3, .int x4]) (rest := []) rfl (Nat.le_of_ble_eq_true rfl) hroom dL_law_200 (fun b2 m1 hp2 => ?_)
  refine z_eq (ws' := mw am cI dg m1 ++ (cw ad cI cR cS c1 ++ [oE cL o f1])) (lv' := [(5, .int r), (4, .int (nI i)), (0, .ref b), (1, .ref (ad 106)), (2, .ref (am 0)), (3, .ref o)]) (st' := [.int b2]) rfl rfl rfl ?_
  refine z_istore (lv' := [(6, .int b2), (5, .int r), (4, .int (nI i)), (0, .ref b), (1, .ref (ad 106)), (2, .ref (am 0)), (3, .ref o)]) E dL_law_203 (by decide) rfl ?_
  refine z_aload_n E dL_law_205 rfl 5 rfl ?_
  refine z_callVi E hZ ((k_thrown l D am cI cR cS cL dg m1).fr [] (cw ad cI cR cS c1 ++ [oE cL o f1])) gL_law_X6_thrown (n := 0) rfl rfl rfl (by decide +kernel) rfl ⟨(Nat.le_of_ble_eq_true rfl), (Nat.le_of_ble_eq_true rfl)⟩ (C := RX6) rfl 0 lw_mod (As := []) (rest := []) rfl (Nat.le_of_ble_eq_true rfl) hroom dL_law_206 (fun r3 u3 hp3 => ?_)
  rw [hp3.1, hp3.2]
  refine z_eq (ws' := mw am cI dg m1 ++ (cw ad cI cR cS c1 ++ [oE cL o f1])) (lv' := [(6, .int b2), (5, .int r), (4, .int (nI i)), (0, .ref b), (1, .ref (ad 106)), (2, .ref (am 0)), (3, .ref o)]) (st' := [.int (m1 0 0)]) rfl rfl rfl ?_
  obtain ⟨hk, h0, hP⟩ := pWr_ans cdL_ne hp hp2
  obtain ⟨q2, z2, hR2⟩ := hP
  dsimp only at h0 hR2
  refine z_iload E dL_law_209 1 rfl ?_
  refine z_icmp_eq_t (tgt := 216) E dL_law_211 (by decide) hk ?_
  refine z_iload E dL_law_216 1 rfl ?_
  refine z_if_ne (tgt := 233) E dL_law_218 (by decide) (fun cr => ?_) (fun cr => ?_)
  · skip
    refine z_goto (tgt := 1457) E dL_law_233 (by decide) ?_
    refine z_lv [2, 3, 4, 5, 6] (lv' := [(4, .int (nI i)), (0, .ref b), (1, .ref (ad 106)), (2, .ref (am 0)), (3, .ref o)]) rfl ?_
    exact K _ _ _ _ _ _ _ hR2
  · skip
    have hr0 : r = 0 := cr
    refine z_aload_n E dL_law_221 rfl 6 rfl ?_
    refine z_iconst (v := 0) E dL_law_222 (by decide) ?_
    refine z_lald E 111 3 (f := f1) lw_out rfl (zvin rfl) (v := f1 0) rfl dL_law_223 ?_
    refine z_iload E dL_law_224 0 rfl ?_
    refine z_i2l (v := b2.toInt64) E dL_law_226 rfl ?_
    refine z_lcmp E dL_law_227 ?_
    refine z_if_eq_t (tgt := 233) E dL_law_228 (by decide) ((lg_cmp_eq _ _).mpr (h0 hr0)) ?_
    refine z_goto (tgt := 1457) E dL_law_233 (by decide) ?_
    refine z_lv [2, 3, 4, 5, 6] (lv' := [(4, .int (nI i)), (0, .ref b), (1, .ref (ad 106)), (2, .ref (am 0)), (3, .ref o)]) rfl ?_
    exact K _ _ _ _ _ _ _ hR2
set_option maxHeartbeats 1000000 in
set_option maxRecDepth 100000 in
theorem lc_kinds (hl : l.stackTraces = false) (E : zE p s m args c D (cK cI cR cS cL) A 9 cL_law RL wsL_law) (hZ : zSK A s s.heap) (hN : zNC s) (hX : va_X b Ls xs s s.heap) (hbl : b < s.heap.size) (hbA : ¬ A b) (hi : i + 5 ≤ Ls) (hLs : Ls ≤ 2560) (hroom : cells + 1 ≤ room_1.cells ∧ slots + 6 ≤ room_1.slots) (hB : B ≤ 1000000) (hR : zR B cm mm q z L) (K : ∀ (c2 m2 : zM) (d2 : Int64) (f2 : Nat → Int64) (q2 z2 L2 : Nat), zR (B + 180) c2 m2 q2 z2 L2 → zW p l e room_1 s m args below meth c D A Q 9 (mw am cI d2 m2 ++ (cw ad cI cR cS c2 ++ [oE cL o f2])) (cells + 1) (slots + 6) 1457 [(4, .int (nI i)), (0, .ref b), (1, .ref (ad 106)), (2, .ref (am 0)), (3, .ref o)] []) : zW p l e room_1 s m args below meth c D A Q 9 (mw am cI dg mm ++ (cw ad cI cR cS cm ++ [oE cL o f])) cells slots 236 [(4, .int (nI i)), (0, .ref b), (1, .ref (ad 106)), (2, .ref (am 0)), (3, .ref o)] [] := by
  obtain ⟨hok, hS⟩ := zSite_0 hR.1
  have hq := hR.2.1.1
  have hn := hR.2.1.2.2.1
  have hz := hR.2.1.2.1
  have hs := hR.2.1.2.2.2.1
  have hL := hR.2.2.1
  have hlen := hR.2.2.2.1
  refine z_aload_n E dL_law_236 rfl 2 rfl ?_
  refine z_aload_n E dL_law_237 rfl 1 rfl ?_
  refine z_iload E dL_law_238 0 rfl ?_
  refine z_iconst (v := 1) E dL_law_240 (by decide) ?_
  refine z_iaddV (v := nI (i + 1)) E dL_law_241 (nI_add i 1) ?_
  obtain ⟨x1, hx1⟩ : ∃ v, xs (nI (i + 1)).toNatClampNeg = v := ⟨_, rfl⟩
  refine z_sld E hX hbl hbA (vp_in_nI (by omega) (by omega)) hx1 dL_law_242 ?_
  refine z_aload_n E dL_law_243 rfl 1 rfl ?_
  refine z_iload E dL_law_244 0 rfl ?_
  refine z_iconst (v := 2) E dL_law_246 (by decide) ?_
  refine z_iaddV (v := nI (i + 2)) E dL_law_247 (nI_add i 2) ?_
  obtain ⟨x2, hx2⟩ : ∃ v, xs (nI (i + 2)).toNatClampNeg = v := ⟨_, rfl⟩
  refine z_sld E hX hbl hbA (vp_in_nI (by omega) (by omega)) hx2 dL_law_248 ?_
  refine z_aload_n E dL_law_249 rfl 1 rfl ?_
  refine z_iload E dL_law_250 0 rfl ?_
  refine z_iconst (v := 3) E dL_law_252 (by decide) ?_
  refine z_iaddV (v := nI (i + 3)) E dL_law_253 (nI_add i 3) ?_
  obtain ⟨x3, hx3⟩ : ∃ v, xs (nI (i + 3)).toNatClampNeg = v := ⟨_, rfl⟩
  refine z_sld E hX hbl hbA (vp_in_nI (by omega) (by omega)) hx3 dL_law_254 ?_
  refine z_aload_n E dL_law_255 rfl 4 rfl ?_
  refine z_callSW E hZ hN ((w_kinds l D ad cI cR cS cL cm hl o f x1 x2 x3 hq hn hz hs).frR (mw am cI dg mm)) gL_law_L_kinds (n := 5) rfl rfl rfl (by decide +kernel) rfl ⟨(Nat.le_of_ble_eq_true rfl), (Nat.le_of_ble_eq_true rfl)⟩ (As := [.ref (ad 106), .int x1, .int x2, .int x3, .ref o]) (rest := []) rfl (Nat.le_of_ble_eq_true rfl) hroom dL_law_256 (fun r u hp => ?_)
  obtain ⟨c1, f1⟩ := u
  refine z_eq (ws' := mw am cI dg mm ++ (cw ad cI cR cS c1 ++ [oE cL o f1])) (lv' := [(4, .int (nI i)), (0, .ref b), (1, .ref (ad 106)), (2, .ref (am 0)), (3, .ref o)]) (st' := [.int r]) rfl rfl rfl ?_
  refine z_istore (lv' := [(5, .int r), (4, .int (nI i)), (0, .ref b), (1, .ref (ad 106)), (2, .ref (am 0)), (3, .ref o)]) E dL_law_259 (by decide) rfl ?_
  refine z_aload_n E dL_law_261 rfl 4 rfl ?_
  refine z_aload_n E dL_law_262 rfl 2 rfl ?_
  refine z_iload E dL_law_263 1 rfl ?_
  refine z_iconst (v := 1) E dL_law_265 (by decide) ?_
  refine z_iaddV (v := nI (i + 1)) E dL_law_266 (nI_add i 1) ?_
  refine z_sld E hX hbl hbA (vp_in_nI (by omega) (by omega)) hx1 dL_law_267 ?_
  refine z_aload_n E dL_law_268 rfl 2 rfl ?_
  refine z_iload E dL_law_269 1 rfl ?_
  refine z_iconst (v := 2) E dL_law_271 (by decide) ?_
  refine z_iaddV (v := nI (i + 2)) E dL_law_272 (nI_add i 2) ?_
  refine z_sld E hX hbl hbA (vp_in_nI (by omega) (by omega)) hx2 dL_law_273 ?_
  refine z_aload_n E dL_law_274 rfl 2 rfl ?_
  refine z_iload E dL_law_275 1 rfl ?_
  refine z_iconst (v := 3) E dL_law_277 (by decide) ?_
  refine z_iaddV (v := nI (i + 3)) E dL_law_278 (nI_add i 3) ?_
  refine z_sld E hX hbl hbA (vp_in_nI (by omega) (by omega)) hx3 dL_law_279 ?_
  refine z_callVi E hZ ((k_mkinds l D am cI cR cS cL dg mm hR x1 x2 x3).fr [] (cw ad cI cR cS c1 ++ [oE cL o f1])) gL_law_X6_kinds (n := 3) rfl rfl rfl (by decide +kernel) rfl ⟨(Nat.le_of_ble_eq_true rfl), (Nat.le_of_ble_eq_true rfl)⟩ (C := RX6) rfl 0 lw_mod (As := [.int x1, .int x2, .int x3]) (rest := []) rfl (Nat.le_of_ble_eq_true rfl) hroom dL_law_280 (fun b2 m1 hp2 => ?_)
  refine z_eq (ws' := mw am cI dg m1 ++ (cw ad cI cR cS c1 ++ [oE cL o f1])) (lv' := [(5, .int r), (4, .int (nI i)), (0, .ref b), (1, .ref (ad 106)), (2, .ref (am 0)), (3, .ref o)]) (st' := [.int b2]) rfl rfl rfl ?_
  refine z_istore (lv' := [(6, .int b2), (5, .int r), (4, .int (nI i)), (0, .ref b), (1, .ref (ad 106)), (2, .ref (am 0)), (3, .ref o)]) E dL_law_283 (by decide) rfl ?_
  refine z_aload_n E dL_law_285 rfl 5 rfl ?_
  refine z_callVi E hZ ((k_thrown l D am cI cR cS cL dg m1).fr [] (cw ad cI cR cS c1 ++ [oE cL o f1])) gL_law_X6_thrown (n := 0) rfl rfl rfl (by decide +kernel) rfl ⟨(Nat.le_of_ble_eq_true rfl), (Nat.le_of_ble_eq_true rfl)⟩ (C := RX6) rfl 0 lw_mod (As := []) (rest := []) rfl (Nat.le_of_ble_eq_true rfl) hroom dL_law_286 (fun r3 u3 hp3 => ?_)
  rw [hp3.1, hp3.2]
  refine z_eq (ws' := mw am cI dg m1 ++ (cw ad cI cR cS c1 ++ [oE cL o f1])) (lv' := [(6, .int b2), (5, .int r), (4, .int (nI i)), (0, .ref b), (1, .ref (ad 106)), (2, .ref (am 0)), (3, .ref o)]) (st' := [.int (m1 0 0)]) rfl rfl rfl ?_
  obtain ⟨hk, h0, hP⟩ := pWr_ans cdL_ne hp hp2
  obtain ⟨q2, z2, hR2⟩ := hP
  dsimp only at h0 hR2
  refine z_iload E dL_law_289 1 rfl ?_
  refine z_icmp_eq_t (tgt := 296) E dL_law_291 (by decide) hk ?_
  refine z_iload E dL_law_296 1 rfl ?_
  refine z_if_ne (tgt := 313) E dL_law_298 (by decide) (fun cr => ?_) (fun cr => ?_)
  · skip
    refine z_goto (tgt := 1457) E dL_law_313 (by decide) ?_
    refine z_lv [2, 3, 4, 5, 6] (lv' := [(4, .int (nI i)), (0, .ref b), (1, .ref (ad 106)), (2, .ref (am 0)), (3, .ref o)]) rfl ?_
    exact K _ _ _ _ _ _ _ hR2
  · skip
    have hr0 : r = 0 := cr
    refine z_aload_n E dL_law_301 rfl 6 rfl ?_
    refine z_iconst (v := 0) E dL_law_302 (by decide) ?_
    refine z_lald E 111 3 (f := f1) lw_out rfl (zvin rfl) (v := f1 0) rfl dL_law_303 ?_
    refine z_iload E dL_law_304 0 rfl ?_
    refine z_i2l (v := b2.toInt64) E dL_law_306 rfl ?_
    refine z_lcmp E dL_law_307 ?_
    refine z_if_eq_t (tgt := 313) E dL_law_308 (by decide) ((lg_cmp_eq _ _).mpr (h0 hr0)) ?_
    refine z_goto (tgt := 1457) E dL_law_313 (by decide) ?_
    refine z_lv [2, 3, 4, 5, 6] (lv' := [(4, .int (nI i)), (0, .ref b), (1, .ref (ad 106)), (2, .ref (am 0)), (3, .ref o)]) rfl ?_
    exact K _ _ _ _ _ _ _ hR2
set_option maxHeartbeats 1000000 in
set_option maxRecDepth 100000 in
theorem lc_rope (hl : l.stackTraces = false) (E : zE p s m args c D (cK cI cR cS cL) A 9 cL_law RL wsL_law) (hZ : zSK A s s.heap) (hN : zNC s) (hX : va_X b Ls xs s s.heap) (hbl : b < s.heap.size) (hbA : ¬ A b) (hi : i + 5 ≤ Ls) (hLs : Ls ≤ 2560) (hroom : cells + 1 ≤ room_1.cells ∧ slots + 6 ≤ room_1.slots) (hB : B ≤ 1000000) (hR : zR B cm mm q z L) (K : ∀ (c2 m2 : zM) (d2 : Int64) (f2 : Nat → Int64) (q2 z2 L2 : Nat), zR (B + 180) c2 m2 q2 z2 L2 → zW p l e room_1 s m args below meth c D A Q 9 (mw am cI d2 m2 ++ (cw ad cI cR cS c2 ++ [oE cL o f2])) (cells + 1) (slots + 6) 1457 [(4, .int (nI i)), (0, .ref b), (1, .ref (ad 106)), (2, .ref (am 0)), (3, .ref o)] []) : zW p l e room_1 s m args below meth c D A Q 9 (mw am cI dg mm ++ (cw ad cI cR cS cm ++ [oE cL o f])) cells slots 316 [(4, .int (nI i)), (0, .ref b), (1, .ref (ad 106)), (2, .ref (am 0)), (3, .ref o)] [] := by
  obtain ⟨hok, hS⟩ := zSite_0 hR.1
  have hq := hR.2.1.1
  have hn := hR.2.1.2.2.1
  have hz := hR.2.1.2.1
  have hs := hR.2.1.2.2.2.1
  have hL := hR.2.2.1
  have hlen := hR.2.2.2.1
  refine z_aload_n E dL_law_316 rfl 2 rfl ?_
  refine z_aload_n E dL_law_317 rfl 1 rfl ?_
  refine z_iload E dL_law_318 0 rfl ?_
  refine z_iconst (v := 1) E dL_law_320 (by decide) ?_
  refine z_iaddV (v := nI (i + 1)) E dL_law_321 (nI_add i 1) ?_
  obtain ⟨x1, hx1⟩ : ∃ v, xs (nI (i + 1)).toNatClampNeg = v := ⟨_, rfl⟩
  refine z_sld E hX hbl hbA (vp_in_nI (by omega) (by omega)) hx1 dL_law_322 ?_
  refine z_aload_n E dL_law_323 rfl 1 rfl ?_
  refine z_iload E dL_law_324 0 rfl ?_
  refine z_iconst (v := 2) E dL_law_326 (by decide) ?_
  refine z_iaddV (v := nI (i + 2)) E dL_law_327 (nI_add i 2) ?_
  obtain ⟨x2, hx2⟩ : ∃ v, xs (nI (i + 2)).toNatClampNeg = v := ⟨_, rfl⟩
  refine z_sld E hX hbl hbA (vp_in_nI (by omega) (by omega)) hx2 dL_law_328 ?_
  refine z_aload_n E dL_law_329 rfl 4 rfl ?_
  refine z_callSW E hZ hN ((w_rope l D ad cI cR cS cL cm hl o f x1 x2 hq hn hz hs).frR (mw am cI dg mm)) gL_law_L_rope (n := 4) rfl rfl rfl (by decide +kernel) rfl ⟨(Nat.le_of_ble_eq_true rfl), (Nat.le_of_ble_eq_true rfl)⟩ (As := [.ref (ad 106), .int x1, .int x2, .ref o]) (rest := []) rfl (Nat.le_of_ble_eq_true rfl) hroom dL_law_330 (fun r u hp => ?_)
  obtain ⟨c1, f1⟩ := u
  refine z_eq (ws' := mw am cI dg mm ++ (cw ad cI cR cS c1 ++ [oE cL o f1])) (lv' := [(4, .int (nI i)), (0, .ref b), (1, .ref (ad 106)), (2, .ref (am 0)), (3, .ref o)]) (st' := [.int r]) rfl rfl rfl ?_
  refine z_istore (lv' := [(5, .int r), (4, .int (nI i)), (0, .ref b), (1, .ref (ad 106)), (2, .ref (am 0)), (3, .ref o)]) E dL_law_333 (by decide) rfl ?_
  refine z_aload_n E dL_law_335 rfl 4 rfl ?_
  refine z_aload_n E dL_law_336 rfl 2 rfl ?_
  refine z_iload E dL_law_337 1 rfl ?_
  refine z_iconst (v := 1) E dL_law_339 (by decide) ?_
  refine z_iaddV (v := nI (i + 1)) E dL_law_340 (nI_add i 1) ?_
  refine z_sld E hX hbl hbA (vp_in_nI (by omega) (by omega)) hx1 dL_law_341 ?_
  refine z_aload_n E dL_law_342 rfl 2 rfl ?_
  refine z_iload E dL_law_343 1 rfl ?_
  refine z_iconst (v := 2) E dL_law_345 (by decide) ?_
  refine z_iaddV (v := nI (i + 2)) E dL_law_346 (nI_add i 2) ?_
  refine z_sld E hX hbl hbA (vp_in_nI (by omega) (by omega)) hx2 dL_law_347 ?_
  refine z_callVi E hZ ((k_mrope l D am cI cR cS cL dg mm hR x1 x2).fr [] (cw ad cI cR cS c1 ++ [oE cL o f1])) gL_law_X6_rope (n := 2) rfl rfl rfl (by decide +kernel) rfl ⟨(Nat.le_of_ble_eq_true rfl), (Nat.le_of_ble_eq_true rfl)⟩ (C := RX6) rfl 0 lw_mod (As := [.int x1, .int x2]) (rest := []) rfl (Nat.le_of_ble_eq_true rfl) hroom dL_law_348 (fun b2 m1 hp2 => ?_)
  refine z_eq (ws' := mw am cI dg m1 ++ (cw ad cI cR cS c1 ++ [oE cL o f1])) (lv' := [(5, .int r), (4, .int (nI i)), (0, .ref b), (1, .ref (ad 106)), (2, .ref (am 0)), (3, .ref o)]) (st' := [.int b2]) rfl rfl rfl ?_
  refine z_istore (lv' := [(6, .int b2), (5, .int r), (4, .int (nI i)), (0, .ref b), (1, .ref (ad 106)), (2, .ref (am 0)), (3, .ref o)]) E dL_law_351 (by decide) rfl ?_
  refine z_aload_n E dL_law_353 rfl 5 rfl ?_
  refine z_callVi E hZ ((k_thrown l D am cI cR cS cL dg m1).fr [] (cw ad cI cR cS c1 ++ [oE cL o f1])) gL_law_X6_thrown (n := 0) rfl rfl rfl (by decide +kernel) rfl ⟨(Nat.le_of_ble_eq_true rfl), (Nat.le_of_ble_eq_true rfl)⟩ (C := RX6) rfl 0 lw_mod (As := []) (rest := []) rfl (Nat.le_of_ble_eq_true rfl) hroom dL_law_354 (fun r3 u3 hp3 => ?_)
  rw [hp3.1, hp3.2]
  refine z_eq (ws' := mw am cI dg m1 ++ (cw ad cI cR cS c1 ++ [oE cL o f1])) (lv' := [(6, .int b2), (5, .int r), (4, .int (nI i)), (0, .ref b), (1, .ref (ad 106)), (2, .ref (am 0)), (3, .ref o)]) (st' := [.int (m1 0 0)]) rfl rfl rfl ?_
  obtain ⟨hk, h0, hP⟩ := pWr_ans cdL_ne hp hp2
  obtain ⟨q2, z2, hR2⟩ := hP
  dsimp only at h0 hR2
  refine z_iload E dL_law_357 1 rfl ?_
  refine z_icmp_eq_t (tgt := 364) E dL_law_359 (by decide) hk ?_
  refine z_iload E dL_law_364 1 rfl ?_
  refine z_if_ne (tgt := 381) E dL_law_366 (by decide) (fun cr => ?_) (fun cr => ?_)
  · skip
    refine z_goto (tgt := 1457) E dL_law_381 (by decide) ?_
    refine z_lv [2, 3, 4, 5, 6] (lv' := [(4, .int (nI i)), (0, .ref b), (1, .ref (ad 106)), (2, .ref (am 0)), (3, .ref o)]) rfl ?_
    exact K _ _ _ _ _ _ _ hR2
  · skip
    have hr0 : r = 0 := cr
    refine z_aload_n E dL_law_369 rfl 6 rfl ?_
    refine z_iconst (v := 0) E dL_law_370 (by decide) ?_
    refine z_lald E 111 3 (f := f1) lw_out rfl (zvin rfl) (v := f1 0) rfl dL_law_371 ?_
    refine z_iload E dL_law_372 0 rfl ?_
    refine z_i2l (v := b2.toInt64) E dL_law_374 rfl ?_
    refine z_lcmp E dL_law_375 ?_
    refine z_if_eq_t (tgt := 381) E dL_law_376 (by decide) ((lg_cmp_eq _ _).mpr (h0 hr0)) ?_
    refine z_goto (tgt := 1457) E dL_law_381 (by decide) ?_
    refine z_lv [2, 3, 4, 5, 6] (lv' := [(4, .int (nI i)), (0, .ref b), (1, .ref (ad 106)), (2, .ref (am 0)), (3, .ref o)]) rfl ?_
    exact K _ _ _ _ _ _ _ hR2
set_option maxHeartbeats 1000000 in
set_option maxRecDepth 100000 in
theorem lc_on (hl : l.stackTraces = false) (E : zE p s m args c D (cK cI cR cS cL) A 9 cL_law RL wsL_law) (hZ : zSK A s s.heap) (hN : zNC s) (hX : va_X b Ls xs s s.heap) (hbl : b < s.heap.size) (hbA : ¬ A b) (hi : i + 5 ≤ Ls) (hLs : Ls ≤ 2560) (hroom : cells + 1 ≤ room_1.cells ∧ slots + 6 ≤ room_1.slots) (hB : B ≤ 1000000) (hR : zR B cm mm q z L) (K : ∀ (c2 m2 : zM) (d2 : Int64) (f2 : Nat → Int64) (q2 z2 L2 : Nat), zR (B + 180) c2 m2 q2 z2 L2 → zW p l e room_1 s m args below meth c D A Q 9 (mw am cI d2 m2 ++ (cw ad cI cR cS c2 ++ [oE cL o f2])) (cells + 1) (slots + 6) 1457 [(4, .int (nI i)), (0, .ref b), (1, .ref (ad 106)), (2, .ref (am 0)), (3, .ref o)] []) : zW p l e room_1 s m args below meth c D A Q 9 (mw am cI dg mm ++ (cw ad cI cR cS cm ++ [oE cL o f])) cells slots 384 [(4, .int (nI i)), (0, .ref b), (1, .ref (ad 106)), (2, .ref (am 0)), (3, .ref o)] [] := by
  obtain ⟨hok, hS⟩ := zSite_0 hR.1
  have hq := hR.2.1.1
  have hn := hR.2.1.2.2.1
  have hz := hR.2.1.2.1
  have hs := hR.2.1.2.2.2.1
  have hL := hR.2.2.1
  have hlen := hR.2.2.2.1
  refine z_aload_n E dL_law_384 rfl 2 rfl ?_
  refine z_aload_n E dL_law_385 rfl 1 rfl ?_
  refine z_iload E dL_law_386 0 rfl ?_
  refine z_iconst (v := 1) E dL_law_388 (by decide) ?_
  refine z_iaddV (v := nI (i + 1)) E dL_law_389 (nI_add i 1) ?_
  obtain ⟨x1, hx1⟩ : ∃ v, xs (nI (i + 1)).toNatClampNeg = v := ⟨_, rfl⟩
  refine z_sld E hX hbl hbA (vp_in_nI (by omega) (by omega)) hx1 dL_law_390 ?_
  refine z_aload_n E dL_law_391 rfl 1 rfl ?_
  refine z_iload E dL_law_392 0 rfl ?_
  refine z_iconst (v := 2) E dL_law_394 (by decide) ?_
  refine z_iaddV (v := nI (i + 2)) E dL_law_395 (nI_add i 2) ?_
  obtain ⟨x2, hx2⟩ : ∃ v, xs (nI (i + 2)).toNatClampNeg = v := ⟨_, rfl⟩
  refine z_sld E hX hbl hbA (vp_in_nI (by omega) (by omega)) hx2 dL_law_396 ?_
  refine z_aload_n E dL_law_397 rfl 4 rfl ?_
  refine z_callSW E hZ hN ((w_on l D ad cI cR cS cL cm hl o f x1 x2 hq hn hz hs).frR (mw am cI dg mm)) gL_law_L_on (n := 4) rfl rfl rfl (by decide +kernel) rfl ⟨(Nat.le_of_ble_eq_true rfl), (Nat.le_of_ble_eq_true rfl)⟩ (As := [.ref (ad 106), .int x1, .int x2, .ref o]) (rest := []) rfl (Nat.le_of_ble_eq_true rfl) hroom dL_law_398 (fun r u hp => ?_)
  obtain ⟨c1, f1⟩ := u
  refine z_eq (ws' := mw am cI dg mm ++ (cw ad cI cR cS c1 ++ [oE cL o f1])) (lv' := [(4, .int (nI i)), (0, .ref b), (1, .ref (ad 106)), (2, .ref (am 0)), (3, .ref o)]) (st' := [.int r]) rfl rfl rfl ?_
  refine z_istore (lv' := [(5, .int r), (4, .int (nI i)), (0, .ref b), (1, .ref (ad 106)), (2, .ref (am 0)), (3, .ref o)]) E dL_law_401 (by decide) rfl ?_
  refine z_aload_n E dL_law_403 rfl 4 rfl ?_
  refine z_aload_n E dL_law_404 rfl 2 rfl ?_
  refine z_iload E dL_law_405 1 rfl ?_
  refine z_iconst (v := 1) E dL_law_407 (by decide) ?_
  refine z_iaddV (v := nI (i + 1)) E dL_law_408 (nI_add i 1) ?_
  refine z_sld E hX hbl hbA (vp_in_nI (by omega) (by omega)) hx1 dL_law_409 ?_
  refine z_aload_n E dL_law_410 rfl 2 rfl ?_
  refine z_iload E dL_law_411 1 rfl ?_
  refine z_iconst (v := 2) E dL_law_413 (by decide) ?_
  refine z_iaddV (v := nI (i + 2)) E dL_law_414 (nI_add i 2) ?_
  refine z_sld E hX hbl hbA (vp_in_nI (by omega) (by omega)) hx2 dL_law_415 ?_
  refine z_callVi E hZ ((k_mon l D am cI cR cS cL dg mm hR x1 x2).fr [] (cw ad cI cR cS c1 ++ [oE cL o f1])) gL_law_X6_on (n := 2) rfl rfl rfl (by decide +kernel) rfl ⟨(Nat.le_of_ble_eq_true rfl), (Nat.le_of_ble_eq_true rfl)⟩ (C := RX6) rfl 0 lw_mod (As := [.int x1, .int x2]) (rest := []) rfl (Nat.le_of_ble_eq_true rfl) hroom dL_law_416 (fun b2 m1 hp2 => ?_)
  refine z_eq (ws' := mw am cI dg m1 ++ (cw ad cI cR cS c1 ++ [oE cL o f1])) (lv' := [(5, .int r), (4, .int (nI i)), (0, .ref b), (1, .ref (ad 106)), (2, .ref (am 0)), (3, .ref o)]) (st' := [.int b2]) rfl rfl rfl ?_
  refine z_istore (lv' := [(6, .int b2), (5, .int r), (4, .int (nI i)), (0, .ref b), (1, .ref (ad 106)), (2, .ref (am 0)), (3, .ref o)]) E dL_law_419 (by decide) rfl ?_
  refine z_aload_n E dL_law_421 rfl 5 rfl ?_
  refine z_callVi E hZ ((k_thrown l D am cI cR cS cL dg m1).fr [] (cw ad cI cR cS c1 ++ [oE cL o f1])) gL_law_X6_thrown (n := 0) rfl rfl rfl (by decide +kernel) rfl ⟨(Nat.le_of_ble_eq_true rfl), (Nat.le_of_ble_eq_true rfl)⟩ (C := RX6) rfl 0 lw_mod (As := []) (rest := []) rfl (Nat.le_of_ble_eq_true rfl) hroom dL_law_422 (fun r3 u3 hp3 => ?_)
  rw [hp3.1, hp3.2]
  refine z_eq (ws' := mw am cI dg m1 ++ (cw ad cI cR cS c1 ++ [oE cL o f1])) (lv' := [(6, .int b2), (5, .int r), (4, .int (nI i)), (0, .ref b), (1, .ref (ad 106)), (2, .ref (am 0)), (3, .ref o)]) (st' := [.int (m1 0 0)]) rfl rfl rfl ?_
  obtain ⟨hk, h0, hP⟩ := pWr_ans cdL_ne hp hp2
  obtain ⟨q2, z2, hR2⟩ := hP
  dsimp only at h0 hR2
  refine z_iload E dL_law_425 1 rfl ?_
  refine z_icmp_eq_t (tgt := 432) E dL_law_427 (by decide) hk ?_
  refine z_iload E dL_law_432 1 rfl ?_
  refine z_if_ne (tgt := 449) E dL_law_434 (by decide) (fun cr => ?_) (fun cr => ?_)
  · skip
    refine z_goto (tgt := 1457) E dL_law_449 (by decide) ?_
    refine z_lv [2, 3, 4, 5, 6] (lv' := [(4, .int (nI i)), (0, .ref b), (1, .ref (ad 106)), (2, .ref (am 0)), (3, .ref o)]) rfl ?_
    exact K _ _ _ _ _ _ _ hR2
  · skip
    have hr0 : r = 0 := cr
    refine z_aload_n E dL_law_437 rfl 6 rfl ?_
    refine z_iconst (v := 0) E dL_law_438 (by decide) ?_
    refine z_lald E 111 3 (f := f1) lw_out rfl (zvin rfl) (v := f1 0) rfl dL_law_439 ?_
    refine z_iload E dL_law_440 0 rfl ?_
    refine z_i2l (v := b2.toInt64) E dL_law_442 rfl ?_
    refine z_lcmp E dL_law_443 ?_
    refine z_if_eq_t (tgt := 449) E dL_law_444 (by decide) ((lg_cmp_eq _ _).mpr (h0 hr0)) ?_
    refine z_goto (tgt := 1457) E dL_law_449 (by decide) ?_
    refine z_lv [2, 3, 4, 5, 6] (lv' := [(4, .int (nI i)), (0, .ref b), (1, .ref (ad 106)), (2, .ref (am 0)), (3, .ref o)]) rfl ?_
    exact K _ _ _ _ _ _ _ hR2
set_option maxHeartbeats 1000000 in
set_option maxRecDepth 100000 in
theorem lc_off (hl : l.stackTraces = false) (E : zE p s m args c D (cK cI cR cS cL) A 9 cL_law RL wsL_law) (hZ : zSK A s s.heap) (hN : zNC s) (hX : va_X b Ls xs s s.heap) (hbl : b < s.heap.size) (hbA : ¬ A b) (hi : i + 5 ≤ Ls) (hLs : Ls ≤ 2560) (hroom : cells + 1 ≤ room_1.cells ∧ slots + 6 ≤ room_1.slots) (hB : B ≤ 1000000) (hR : zR B cm mm q z L) (K : ∀ (c2 m2 : zM) (d2 : Int64) (f2 : Nat → Int64) (q2 z2 L2 : Nat), zR (B + 180) c2 m2 q2 z2 L2 → zW p l e room_1 s m args below meth c D A Q 9 (mw am cI d2 m2 ++ (cw ad cI cR cS c2 ++ [oE cL o f2])) (cells + 1) (slots + 6) 1457 [(4, .int (nI i)), (0, .ref b), (1, .ref (ad 106)), (2, .ref (am 0)), (3, .ref o)] []) : zW p l e room_1 s m args below meth c D A Q 9 (mw am cI dg mm ++ (cw ad cI cR cS cm ++ [oE cL o f])) cells slots 452 [(4, .int (nI i)), (0, .ref b), (1, .ref (ad 106)), (2, .ref (am 0)), (3, .ref o)] [] := by
  obtain ⟨hok, hS⟩ := zSite_0 hR.1
  have hq := hR.2.1.1
  have hn := hR.2.1.2.2.1
  have hz := hR.2.1.2.1
  have hs := hR.2.1.2.2.2.1
  have hL := hR.2.2.1
  have hlen := hR.2.2.2.1
  refine z_aload_n E dL_law_452 rfl 2 rfl ?_
  refine z_aload_n E dL_law_453 rfl 1 rfl ?_
  refine z_iload E dL_law_454 0 rfl ?_
  refine z_iconst (v := 1) E dL_law_456 (by decide) ?_
  refine z_iaddV (v := nI (i + 1)) E dL_law_457 (nI_add i 1) ?_
  obtain ⟨x1, hx1⟩ : ∃ v, xs (nI (i + 1)).toNatClampNeg = v := ⟨_, rfl⟩
  refine z_sld E hX hbl hbA (vp_in_nI (by omega) (by omega)) hx1 dL_law_458 ?_
  refine z_aload_n E dL_law_459 rfl 1 rfl ?_
  refine z_iload E dL_law_460 0 rfl ?_
  refine z_iconst (v := 2) E dL_law_462 (by decide) ?_
  refine z_iaddV (v := nI (i + 2)) E dL_law_463 (nI_add i 2) ?_
  obtain ⟨x2, hx2⟩ : ∃ v, xs (nI (i + 2)).toNatClampNeg = v := ⟨_, rfl⟩
  refine z_sld E hX hbl hbA (vp_in_nI (by omega) (by omega)) hx2 dL_law_464 ?_
  refine z_aload_n E dL_law_465 rfl 4 rfl ?_
  refine z_callSW E hZ hN ((w_off l D ad cI cR cS cL cm hl o f x1 x2 hq hn hz hs).frR (mw am cI dg mm)) gL_law_L_off (n := 4) rfl rfl rfl (by decide +kernel) rfl ⟨(Nat.le_of_ble_eq_true rfl), (Nat.le_of_ble_eq_true rfl)⟩ (As := [.ref (ad 106), .int x1, .int x2, .ref o]) (rest := []) rfl (Nat.le_of_ble_eq_true rfl) hroom dL_law_466 (fun r u hp => ?_)
  obtain ⟨c1, f1⟩ := u
  refine z_eq (ws' := mw am cI dg mm ++ (cw ad cI cR cS c1 ++ [oE cL o f1])) (lv' := [(4, .int (nI i)), (0, .ref b), (1, .ref (ad 106)), (2, .ref (am 0)), (3, .ref o)]) (st' := [.int r]) rfl rfl rfl ?_
  refine z_istore (lv' := [(5, .int r), (4, .int (nI i)), (0, .ref b), (1, .ref (ad 106)), (2, .ref (am 0)), (3, .ref o)]) E dL_law_469 (by decide) rfl ?_
  refine z_aload_n E dL_law_471 rfl 4 rfl ?_
  refine z_aload_n E dL_law_472 rfl 2 rfl ?_
  refine z_iload E dL_law_473 1 rfl ?_
  refine z_iconst (v := 1) E dL_law_475 (by decide) ?_
  refine z_iaddV (v := nI (i + 1)) E dL_law_476 (nI_add i 1) ?_
  refine z_sld E hX hbl hbA (vp_in_nI (by omega) (by omega)) hx1 dL_law_477 ?_
  refine z_aload_n E dL_law_478 rfl 2 rfl ?_
  refine z_iload E dL_law_479 1 rfl ?_
  refine z_iconst (v := 2) E dL_law_481 (by decide) ?_
  refine z_iaddV (v := nI (i + 2)) E dL_law_482 (nI_add i 2) ?_
  refine z_sld E hX hbl hbA (vp_in_nI (by omega) (by omega)) hx2 dL_law_483 ?_
  refine z_callVi E hZ ((k_moff l D am cI cR cS cL dg mm hR x1 x2).fr [] (cw ad cI cR cS c1 ++ [oE cL o f1])) gL_law_X6_off (n := 2) rfl rfl rfl (by decide +kernel) rfl ⟨(Nat.le_of_ble_eq_true rfl), (Nat.le_of_ble_eq_true rfl)⟩ (C := RX6) rfl 0 lw_mod (As := [.int x1, .int x2]) (rest := []) rfl (Nat.le_of_ble_eq_true rfl) hroom dL_law_484 (fun b2 m1 hp2 => ?_)
  refine z_eq (ws' := mw am cI dg m1 ++ (cw ad cI cR cS c1 ++ [oE cL o f1])) (lv' := [(5, .int r), (4, .int (nI i)), (0, .ref b), (1, .ref (ad 106)), (2, .ref (am 0)), (3, .ref o)]) (st' := [.int b2]) rfl rfl rfl ?_
  refine z_istore (lv' := [(6, .int b2), (5, .int r), (4, .int (nI i)), (0, .ref b), (1, .ref (ad 106)), (2, .ref (am 0)), (3, .ref o)]) E dL_law_487 (by decide) rfl ?_
  refine z_aload_n E dL_law_489 rfl 5 rfl ?_
  refine z_callVi E hZ ((k_thrown l D am cI cR cS cL dg m1).fr [] (cw ad cI cR cS c1 ++ [oE cL o f1])) gL_law_X6_thrown (n := 0) rfl rfl rfl (by decide +kernel) rfl ⟨(Nat.le_of_ble_eq_true rfl), (Nat.le_of_ble_eq_true rfl)⟩ (C := RX6) rfl 0 lw_mod (As := []) (rest := []) rfl (Nat.le_of_ble_eq_true rfl) hroom dL_law_490 (fun r3 u3 hp3 => ?_)
  rw [hp3.1, hp3.2]
  refine z_eq (ws' := mw am cI dg m1 ++ (cw ad cI cR cS c1 ++ [oE cL o f1])) (lv' := [(6, .int b2), (5, .int r), (4, .int (nI i)), (0, .ref b), (1, .ref (ad 106)), (2, .ref (am 0)), (3, .ref o)]) (st' := [.int (m1 0 0)]) rfl rfl rfl ?_
  obtain ⟨hk, h0, hP⟩ := pWr_ans cdL_ne hp hp2
  obtain ⟨q2, z2, hR2⟩ := hP
  dsimp only at h0 hR2
  refine z_iload E dL_law_493 1 rfl ?_
  refine z_icmp_eq_t (tgt := 500) E dL_law_495 (by decide) hk ?_
  refine z_iload E dL_law_500 1 rfl ?_
  refine z_if_ne (tgt := 517) E dL_law_502 (by decide) (fun cr => ?_) (fun cr => ?_)
  · skip
    refine z_goto (tgt := 1457) E dL_law_517 (by decide) ?_
    refine z_lv [2, 3, 4, 5, 6] (lv' := [(4, .int (nI i)), (0, .ref b), (1, .ref (ad 106)), (2, .ref (am 0)), (3, .ref o)]) rfl ?_
    exact K _ _ _ _ _ _ _ hR2
  · skip
    have hr0 : r = 0 := cr
    refine z_aload_n E dL_law_505 rfl 6 rfl ?_
    refine z_iconst (v := 0) E dL_law_506 (by decide) ?_
    refine z_lald E 111 3 (f := f1) lw_out rfl (zvin rfl) (v := f1 0) rfl dL_law_507 ?_
    refine z_iload E dL_law_508 0 rfl ?_
    refine z_i2l (v := b2.toInt64) E dL_law_510 rfl ?_
    refine z_lcmp E dL_law_511 ?_
    refine z_if_eq_t (tgt := 517) E dL_law_512 (by decide) ((lg_cmp_eq _ _).mpr (h0 hr0)) ?_
    refine z_goto (tgt := 1457) E dL_law_517 (by decide) ?_
    refine z_lv [2, 3, 4, 5, 6] (lv' := [(4, .int (nI i)), (0, .ref b), (1, .ref (ad 106)), (2, .ref (am 0)), (3, .ref o)]) rfl ?_
    exact K _ _ _ _ _ _ _ hR2
set_option maxHeartbeats 1000000 in
set_option maxRecDepth 100000 in
theorem lc_climb (hl : l.stackTraces = false) (E : zE p s m args c D (cK cI cR cS cL) A 9 cL_law RL wsL_law) (hZ : zSK A s s.heap) (hN : zNC s) (hX : va_X b Ls xs s s.heap) (hbl : b < s.heap.size) (hbA : ¬ A b) (hi : i + 5 ≤ Ls) (hLs : Ls ≤ 2560) (hroom : cells + 1 ≤ room_1.cells ∧ slots + 6 ≤ room_1.slots) (hB : B ≤ 1000000) (hR : zR B cm mm q z L) (K : ∀ (c2 m2 : zM) (d2 : Int64) (f2 : Nat → Int64) (q2 z2 L2 : Nat), zR (B + 180) c2 m2 q2 z2 L2 → zW p l e room_1 s m args below meth c D A Q 9 (mw am cI d2 m2 ++ (cw ad cI cR cS c2 ++ [oE cL o f2])) (cells + 1) (slots + 6) 1457 [(4, .int (nI i)), (0, .ref b), (1, .ref (ad 106)), (2, .ref (am 0)), (3, .ref o)] []) : zW p l e room_1 s m args below meth c D A Q 9 (mw am cI dg mm ++ (cw ad cI cR cS cm ++ [oE cL o f])) cells slots 520 [(4, .int (nI i)), (0, .ref b), (1, .ref (ad 106)), (2, .ref (am 0)), (3, .ref o)] [] := by
  obtain ⟨hok, hS⟩ := zSite_0 hR.1
  have hq := hR.2.1.1
  have hn := hR.2.1.2.2.1
  have hz := hR.2.1.2.1
  have hs := hR.2.1.2.2.2.1
  have hL := hR.2.2.1
  have hlen := hR.2.2.2.1
  refine z_aload_n E dL_law_520 rfl 2 rfl ?_
  refine z_aload_n E dL_law_521 rfl 1 rfl ?_
  refine z_iload E dL_law_522 0 rfl ?_
  refine z_iconst (v := 1) E dL_law_524 (by decide) ?_
  refine z_iaddV (v := nI (i + 1)) E dL_law_525 (nI_add i 1) ?_
  obtain ⟨x1, hx1⟩ : ∃ v, xs (nI (i + 1)).toNatClampNeg = v := ⟨_, rfl⟩
  refine z_sld E hX hbl hbA (vp_in_nI (by omega) (by omega)) hx1 dL_law_526 ?_
  refine z_aload_n E dL_law_527 rfl 1 rfl ?_
  refine z_iload E dL_law_528 0 rfl ?_
  refine z_iconst (v := 2) E dL_law_530 (by decide) ?_
  refine z_iaddV (v := nI (i + 2)) E dL_law_531 (nI_add i 2) ?_
  obtain ⟨x2, hx2⟩ : ∃ v, xs (nI (i + 2)).toNatClampNeg = v := ⟨_, rfl⟩
  refine z_sld E hX hbl hbA (vp_in_nI (by omega) (by omega)) hx2 dL_law_532 ?_
  refine z_aload_n E dL_law_533 rfl 1 rfl ?_
  refine z_iload E dL_law_534 0 rfl ?_
  refine z_iconst (v := 3) E dL_law_536 (by decide) ?_
  refine z_iaddV (v := nI (i + 3)) E dL_law_537 (nI_add i 3) ?_
  obtain ⟨x3, hx3⟩ : ∃ v, xs (nI (i + 3)).toNatClampNeg = v := ⟨_, rfl⟩
  refine z_sld E hX hbl hbA (vp_in_nI (by omega) (by omega)) hx3 dL_law_538 ?_
  refine z_aload_n E dL_law_539 rfl 4 rfl ?_
  refine z_callSW E hZ hN ((w_climb l D ad cI cR cS cL cm hl o f x1 x2 x3 hq hn hz hs hok.hA).frR (mw am cI dg mm)) gL_law_L_climb (n := 5) rfl rfl rfl (by decide +kernel) rfl ⟨(Nat.le_of_ble_eq_true rfl), (Nat.le_of_ble_eq_true rfl)⟩ (As := [.ref (ad 106), .int x1, .int x2, .int x3, .ref o]) (rest := []) rfl (Nat.le_of_ble_eq_true rfl) hroom dL_law_540 (fun r u hp => ?_)
  obtain ⟨c1, f1⟩ := u
  refine z_eq (ws' := mw am cI dg mm ++ (cw ad cI cR cS c1 ++ [oE cL o f1])) (lv' := [(4, .int (nI i)), (0, .ref b), (1, .ref (ad 106)), (2, .ref (am 0)), (3, .ref o)]) (st' := [.int r]) rfl rfl rfl ?_
  refine z_istore (lv' := [(5, .int r), (4, .int (nI i)), (0, .ref b), (1, .ref (ad 106)), (2, .ref (am 0)), (3, .ref o)]) E dL_law_543 (by decide) rfl ?_
  refine z_aload_n E dL_law_545 rfl 4 rfl ?_
  refine z_aload_n E dL_law_546 rfl 2 rfl ?_
  refine z_iload E dL_law_547 1 rfl ?_
  refine z_iconst (v := 1) E dL_law_549 (by decide) ?_
  refine z_iaddV (v := nI (i + 1)) E dL_law_550 (nI_add i 1) ?_
  refine z_sld E hX hbl hbA (vp_in_nI (by omega) (by omega)) hx1 dL_law_551 ?_
  refine z_aload_n E dL_law_552 rfl 2 rfl ?_
  refine z_iload E dL_law_553 1 rfl ?_
  refine z_iconst (v := 2) E dL_law_555 (by decide) ?_
  refine z_iaddV (v := nI (i + 2)) E dL_law_556 (nI_add i 2) ?_
  refine z_sld E hX hbl hbA (vp_in_nI (by omega) (by omega)) hx2 dL_law_557 ?_
  refine z_aload_n E dL_law_558 rfl 2 rfl ?_
  refine z_iload E dL_law_559 1 rfl ?_
  refine z_iconst (v := 3) E dL_law_561 (by decide) ?_
  refine z_iaddV (v := nI (i + 3)) E dL_law_562 (nI_add i 3) ?_
  refine z_sld E hX hbl hbA (vp_in_nI (by omega) (by omega)) hx3 dL_law_563 ?_
  refine z_callVi E hZ ((k_mclimb l D am cI cR cS cL dg mm hR x1 x2 x3).fr [] (cw ad cI cR cS c1 ++ [oE cL o f1])) gL_law_X6_climb (n := 3) rfl rfl rfl (by decide +kernel) rfl ⟨(Nat.le_of_ble_eq_true rfl), (Nat.le_of_ble_eq_true rfl)⟩ (C := RX6) rfl 0 lw_mod (As := [.int x1, .int x2, .int x3]) (rest := []) rfl (Nat.le_of_ble_eq_true rfl) hroom dL_law_564 (fun b2 m1 hp2 => ?_)
  refine z_eq (ws' := mw am cI dg m1 ++ (cw ad cI cR cS c1 ++ [oE cL o f1])) (lv' := [(5, .int r), (4, .int (nI i)), (0, .ref b), (1, .ref (ad 106)), (2, .ref (am 0)), (3, .ref o)]) (st' := [.int b2]) rfl rfl rfl ?_
  refine z_istore (lv' := [(6, .int b2), (5, .int r), (4, .int (nI i)), (0, .ref b), (1, .ref (ad 106)), (2, .ref (am 0)), (3, .ref o)]) E dL_law_567 (by decide) rfl ?_
  refine z_aload_n E dL_law_569 rfl 5 rfl ?_
  refine z_callVi E hZ ((k_thrown l D am cI cR cS cL dg m1).fr [] (cw ad cI cR cS c1 ++ [oE cL o f1])) gL_law_X6_thrown (n := 0) rfl rfl rfl (by decide +kernel) rfl ⟨(Nat.le_of_ble_eq_true rfl), (Nat.le_of_ble_eq_true rfl)⟩ (C := RX6) rfl 0 lw_mod (As := []) (rest := []) rfl (Nat.le_of_ble_eq_true rfl) hroom dL_law_570 (fun r3 u3 hp3 => ?_)
  rw [hp3.1, hp3.2]
  refine z_eq (ws' := mw am cI dg m1 ++ (cw ad cI cR cS c1 ++ [oE cL o f1])) (lv' := [(6, .int b2), (5, .int r), (4, .int (nI i)), (0, .ref b), (1, .ref (ad 106)), (2, .ref (am 0)), (3, .ref o)]) (st' := [.int (m1 0 0)]) rfl rfl rfl ?_
  obtain ⟨hk, h0, hP⟩ := pWr_ans cdL_ne hp hp2
  obtain ⟨q2, z2, hR2⟩ := hP
  dsimp only at h0 hR2
  refine z_iload E dL_law_573 1 rfl ?_
  refine z_icmp_eq_t (tgt := 580) E dL_law_575 (by decide) hk ?_
  refine z_iload E dL_law_580 1 rfl ?_
  refine z_if_ne (tgt := 597) E dL_law_582 (by decide) (fun cr => ?_) (fun cr => ?_)
  · skip
    refine z_goto (tgt := 1457) E dL_law_597 (by decide) ?_
    refine z_lv [2, 3, 4, 5, 6] (lv' := [(4, .int (nI i)), (0, .ref b), (1, .ref (ad 106)), (2, .ref (am 0)), (3, .ref o)]) rfl ?_
    exact K _ _ _ _ _ _ _ hR2
  · skip
    have hr0 : r = 0 := cr
    refine z_aload_n E dL_law_585 rfl 6 rfl ?_
    refine z_iconst (v := 0) E dL_law_586 (by decide) ?_
    refine z_lald E 111 3 (f := f1) lw_out rfl (zvin rfl) (v := f1 0) rfl dL_law_587 ?_
    refine z_iload E dL_law_588 0 rfl ?_
    refine z_i2l (v := b2.toInt64) E dL_law_590 rfl ?_
    refine z_lcmp E dL_law_591 ?_
    refine z_if_eq_t (tgt := 597) E dL_law_592 (by decide) ((lg_cmp_eq _ _).mpr (h0 hr0)) ?_
    refine z_goto (tgt := 1457) E dL_law_597 (by decide) ?_
    refine z_lv [2, 3, 4, 5, 6] (lv' := [(4, .int (nI i)), (0, .ref b), (1, .ref (ad 106)), (2, .ref (am 0)), (3, .ref o)]) rfl ?_
    exact K _ _ _ _ _ _ _ hR2
set_option maxHeartbeats 1000000 in
set_option maxRecDepth 100000 in
theorem lc_append (hl : l.stackTraces = false) (E : zE p s m args c D (cK cI cR cS cL) A 9 cL_law RL wsL_law) (hZ : zSK A s s.heap) (hN : zNC s) (hX : va_X b Ls xs s s.heap) (hbl : b < s.heap.size) (hbA : ¬ A b) (hi : i + 5 ≤ Ls) (hLs : Ls ≤ 2560) (hroom : cells + 1 ≤ room_1.cells ∧ slots + 6 ≤ room_1.slots) (hB : B ≤ 1000000) (hR : zR B cm mm q z L) (K : ∀ (c2 m2 : zM) (d2 : Int64) (f2 : Nat → Int64) (q2 z2 L2 : Nat), zR (B + 180) c2 m2 q2 z2 L2 → zW p l e room_1 s m args below meth c D A Q 9 (mw am cI d2 m2 ++ (cw ad cI cR cS c2 ++ [oE cL o f2])) (cells + 1) (slots + 6) 1457 [(4, .int (nI i)), (0, .ref b), (1, .ref (ad 106)), (2, .ref (am 0)), (3, .ref o)] []) : zW p l e room_1 s m args below meth c D A Q 9 (mw am cI dg mm ++ (cw ad cI cR cS cm ++ [oE cL o f])) cells slots 600 [(4, .int (nI i)), (0, .ref b), (1, .ref (ad 106)), (2, .ref (am 0)), (3, .ref o)] [] := by
  obtain ⟨hok, hS⟩ := zSite_0 hR.1
  have hq := hR.2.1.1
  have hn := hR.2.1.2.2.1
  have hz := hR.2.1.2.1
  have hs := hR.2.1.2.2.2.1
  have hL := hR.2.2.1
  have hlen := hR.2.2.2.1
  refine z_aload_n E dL_law_600 rfl 2 rfl ?_
  refine z_aload_n E dL_law_601 rfl 1 rfl ?_
  refine z_iload E dL_law_602 0 rfl ?_
  refine z_iconst (v := 1) E dL_law_604 (by decide) ?_
  refine z_iaddV (v := nI (i + 1)) E dL_law_605 (nI_add i 1) ?_
  obtain ⟨x1, hx1⟩ : ∃ v, xs (nI (i + 1)).toNatClampNeg = v := ⟨_, rfl⟩
  refine z_sld E hX hbl hbA (vp_in_nI (by omega) (by omega)) hx1 dL_law_606 ?_
  refine z_aload_n E dL_law_607 rfl 4 rfl ?_
  refine z_callSW E hZ hN ((w_append l D ad cI cR cS cL cm hl o f x1 ).frR (mw am cI dg mm)) gL_law_L_append (n := 3) rfl rfl rfl (by decide +kernel) rfl ⟨(Nat.le_of_ble_eq_true rfl), (Nat.le_of_ble_eq_true rfl)⟩ (As := [.ref (ad 106), .int x1, .ref o]) (rest := []) rfl (Nat.le_of_ble_eq_true rfl) hroom dL_law_608 (fun r u hp => ?_)
  obtain ⟨c1, f1⟩ := u
  refine z_eq (ws' := mw am cI dg mm ++ (cw ad cI cR cS c1 ++ [oE cL o f1])) (lv' := [(4, .int (nI i)), (0, .ref b), (1, .ref (ad 106)), (2, .ref (am 0)), (3, .ref o)]) (st' := [.int r]) rfl rfl rfl ?_
  refine z_istore (lv' := [(5, .int r), (4, .int (nI i)), (0, .ref b), (1, .ref (ad 106)), (2, .ref (am 0)), (3, .ref o)]) E dL_law_611 (by decide) rfl ?_
  refine z_aload_n E dL_law_613 rfl 4 rfl ?_
  refine z_aload_n E dL_law_614 rfl 2 rfl ?_
  refine z_iload E dL_law_615 1 rfl ?_
  refine z_iconst (v := 1) E dL_law_617 (by decide) ?_
  refine z_iaddV (v := nI (i + 1)) E dL_law_618 (nI_add i 1) ?_
  refine z_sld E hX hbl hbA (vp_in_nI (by omega) (by omega)) hx1 dL_law_619 ?_
  refine z_callVi E hZ ((k_mappend l D am cI cR cS cL dg mm hR x1).fr [] (cw ad cI cR cS c1 ++ [oE cL o f1])) gL_law_X6_append (n := 1) rfl rfl rfl (by decide +kernel) rfl ⟨(Nat.le_of_ble_eq_true rfl), (Nat.le_of_ble_eq_true rfl)⟩ (C := RX6) rfl 0 lw_mod (As := [.int x1]) (rest := []) rfl (Nat.le_of_ble_eq_true rfl) hroom dL_law_620 (fun b2 m1 hp2 => ?_)
  refine z_eq (ws' := mw am cI dg m1 ++ (cw ad cI cR cS c1 ++ [oE cL o f1])) (lv' := [(5, .int r), (4, .int (nI i)), (0, .ref b), (1, .ref (ad 106)), (2, .ref (am 0)), (3, .ref o)]) (st' := [.int b2]) rfl rfl rfl ?_
  refine z_istore (lv' := [(6, .int b2), (5, .int r), (4, .int (nI i)), (0, .ref b), (1, .ref (ad 106)), (2, .ref (am 0)), (3, .ref o)]) E dL_law_623 (by decide) rfl ?_
  refine z_aload_n E dL_law_625 rfl 5 rfl ?_
  refine z_callVi E hZ ((k_thrown l D am cI cR cS cL dg m1).fr [] (cw ad cI cR cS c1 ++ [oE cL o f1])) gL_law_X6_thrown (n := 0) rfl rfl rfl (by decide +kernel) rfl ⟨(Nat.le_of_ble_eq_true rfl), (Nat.le_of_ble_eq_true rfl)⟩ (C := RX6) rfl 0 lw_mod (As := []) (rest := []) rfl (Nat.le_of_ble_eq_true rfl) hroom dL_law_626 (fun r3 u3 hp3 => ?_)
  rw [hp3.1, hp3.2]
  refine z_eq (ws' := mw am cI dg m1 ++ (cw ad cI cR cS c1 ++ [oE cL o f1])) (lv' := [(6, .int b2), (5, .int r), (4, .int (nI i)), (0, .ref b), (1, .ref (ad 106)), (2, .ref (am 0)), (3, .ref o)]) (st' := [.int (m1 0 0)]) rfl rfl rfl ?_
  obtain ⟨hk, h0, hP⟩ := pWr_ans cdA_ne hp hp2
  obtain ⟨q2, z2, L2, hR2⟩ := hP
  dsimp only at h0 hR2
  refine z_iload E dL_law_629 1 rfl ?_
  refine z_icmp_eq_t (tgt := 636) E dL_law_631 (by decide) hk ?_
  refine z_iload E dL_law_636 1 rfl ?_
  refine z_if_ne (tgt := 653) E dL_law_638 (by decide) (fun cr => ?_) (fun cr => ?_)
  · skip
    refine z_goto (tgt := 1457) E dL_law_653 (by decide) ?_
    refine z_lv [2, 3, 4, 5, 6] (lv' := [(4, .int (nI i)), (0, .ref b), (1, .ref (ad 106)), (2, .ref (am 0)), (3, .ref o)]) rfl ?_
    exact K _ _ _ _ _ _ _ hR2
  · skip
    have hr0 : r = 0 := cr
    refine z_aload_n E dL_law_641 rfl 6 rfl ?_
    refine z_iconst (v := 0) E dL_law_642 (by decide) ?_
    refine z_lald E 111 3 (f := f1) lw_out rfl (zvin rfl) (v := f1 0) rfl dL_law_643 ?_
    refine z_iload E dL_law_644 0 rfl ?_
    refine z_i2l (v := b2.toInt64) E dL_law_646 rfl ?_
    refine z_lcmp E dL_law_647 ?_
    refine z_if_eq_t (tgt := 653) E dL_law_648 (by decide) ((lg_cmp_eq _ _).mpr (h0 hr0)) ?_
    refine z_goto (tgt := 1457) E dL_law_653 (by decide) ?_
    refine z_lv [2, 3, 4, 5, 6] (lv' := [(4, .int (nI i)), (0, .ref b), (1, .ref (ad 106)), (2, .ref (am 0)), (3, .ref o)]) rfl ?_
    exact K _ _ _ _ _ _ _ hR2
set_option maxHeartbeats 1000000 in
set_option maxRecDepth 100000 in
theorem lc_clearBuffer (hl : l.stackTraces = false) (E : zE p s m args c D (cK cI cR cS cL) A 9 cL_law RL wsL_law) (hZ : zSK A s s.heap) (hN : zNC s) (hX : va_X b Ls xs s s.heap) (hbl : b < s.heap.size) (hbA : ¬ A b) (hi : i + 5 ≤ Ls) (hLs : Ls ≤ 2560) (hroom : cells + 1 ≤ room_1.cells ∧ slots + 6 ≤ room_1.slots) (hB : B ≤ 1000000) (hR : zR B cm mm q z L) (K : ∀ (c2 m2 : zM) (d2 : Int64) (f2 : Nat → Int64) (q2 z2 L2 : Nat), zR (B + 180) c2 m2 q2 z2 L2 → zW p l e room_1 s m args below meth c D A Q 9 (mw am cI d2 m2 ++ (cw ad cI cR cS c2 ++ [oE cL o f2])) (cells + 1) (slots + 6) 1457 [(4, .int (nI i)), (0, .ref b), (1, .ref (ad 106)), (2, .ref (am 0)), (3, .ref o)] []) : zW p l e room_1 s m args below meth c D A Q 9 (mw am cI dg mm ++ (cw ad cI cR cS cm ++ [oE cL o f])) cells slots 656 [(4, .int (nI i)), (0, .ref b), (1, .ref (ad 106)), (2, .ref (am 0)), (3, .ref o)] [] := by
  obtain ⟨hok, hS⟩ := zSite_0 hR.1
  have hL := hR.2.2.1
  have hlen := hR.2.2.2.1
  have hr1 : cells + 0 ≤ room_1.cells ∧ slots + 0 ≤ room_1.slots := ⟨by omega, by omega⟩
  refine z_aload_n E dL_law_656 rfl 2 rfl ?_
  refine z_callVi E hZ ((k_clear l D ad cI cR cS cL cm).fr (mw am cI dg mm) [oE cL o f]) gL_law_X5_clearBuffer (n := 0) rfl rfl rfl (by decide +kernel) rfl ⟨(Nat.le_of_ble_eq_true rfl), (Nat.le_of_ble_eq_true rfl)⟩ (C := RX5) rfl 110 lw_lad (As := []) (rest := []) rfl (Nat.le_of_ble_eq_true rfl) hr1 dL_law_657 (fun r c1 hp => ?_)
  refine z_eq (ws' := mw am cI dg mm ++ (cw ad cI cR cS c1 ++ [oE cL o f])) (lv' := [(4, .int (nI i)), (0, .ref b), (1, .ref (ad 106)), (2, .ref (am 0)), (3, .ref o)]) (st' := [.int r]) rfl rfl rfl ?_
  refine z_aload_n E dL_law_660 rfl 3 rfl ?_
  refine z_callVi E hZ ((k_mclear l D am cI cR cS cL dg mm hR).fr [] (cw ad cI cR cS c1 ++ [oE cL o f])) gL_law_X6_clearBuffer (n := 0) rfl rfl rfl (by decide +kernel) rfl ⟨(Nat.le_of_ble_eq_true rfl), (Nat.le_of_ble_eq_true rfl)⟩ (C := RX6) rfl 0 lw_mod (As := []) (rest := [.int r]) rfl (Nat.le_of_ble_eq_true rfl) hr1 dL_law_661 (fun r2 m1 hp2 => ?_)
  refine z_eq (ws' := mw am cI dg m1 ++ (cw ad cI cR cS c1 ++ [oE cL o f])) (lv' := [(4, .int (nI i)), (0, .ref b), (1, .ref (ad 106)), (2, .ref (am 0)), (3, .ref o)]) (st' := [.int r2, .int r]) rfl rfl rfl ?_
  have hk : r = r2 := hp.1.trans hp2.1.symm
  have hR2 : zR (B + 180) c1 m1 q z 0 := by rw [hp.2]; exact zR_mono (by omega) hp2.2
  refine z_icmp_eq_t (tgt := 1457) E dL_law_664 (by decide) hk ?_
  refine z_widen (k := cells + 1) (n := slots + 6) (by omega) (by omega) ?_
  exact K _ _ _ _ _ _ _ hR2
set_option maxHeartbeats 1000000 in
set_option maxRecDepth 100000 in
theorem lc_firstError (hl : l.stackTraces = false) (E : zE p s m args c D (cK cI cR cS cL) A 9 cL_law RL wsL_law) (hZ : zSK A s s.heap) (hN : zNC s) (hX : va_X b Ls xs s s.heap) (hbl : b < s.heap.size) (hbA : ¬ A b) (hi : i + 5 ≤ Ls) (hLs : Ls ≤ 2560) (hroom : cells + 1 ≤ room_1.cells ∧ slots + 6 ≤ room_1.slots) (hB : B ≤ 1000000) (hR : zR B cm mm q z L) (K : ∀ (c2 m2 : zM) (d2 : Int64) (f2 : Nat → Int64) (q2 z2 L2 : Nat), zR (B + 180) c2 m2 q2 z2 L2 → zW p l e room_1 s m args below meth c D A Q 9 (mw am cI d2 m2 ++ (cw ad cI cR cS c2 ++ [oE cL o f2])) (cells + 1) (slots + 6) 1457 [(4, .int (nI i)), (0, .ref b), (1, .ref (ad 106)), (2, .ref (am 0)), (3, .ref o)] []) : zW p l e room_1 s m args below meth c D A Q 9 (mw am cI dg mm ++ (cw ad cI cR cS cm ++ [oE cL o f])) cells slots 669 [(4, .int (nI i)), (0, .ref b), (1, .ref (ad 106)), (2, .ref (am 0)), (3, .ref o)] [] := by
  obtain ⟨hok, hS⟩ := zSite_0 hR.1
  have hL := hR.2.2.1
  have hlen := hR.2.2.2.1
  have hr1 : cells + 0 ≤ room_1.cells ∧ slots + 0 ≤ room_1.slots := ⟨by omega, by omega⟩
  refine z_aload_n E dL_law_669 rfl 2 rfl ?_
  refine z_callVi E hZ ((k_firstError l D ad cI cR cS cL cm hL hlen).fr (mw am cI dg mm) [oE cL o f]) gL_law_X5_firstError (n := 0) rfl rfl rfl (by decide +kernel) rfl ⟨(Nat.le_of_ble_eq_true rfl), (Nat.le_of_ble_eq_true rfl)⟩ (C := RX5) rfl 110 lw_lad (As := []) (rest := []) rfl (Nat.le_of_ble_eq_true rfl) hr1 dL_law_670 (fun r c1 hp => ?_)
  refine z_eq (ws' := mw am cI dg mm ++ (cw ad cI cR cS c1 ++ [oE cL o f])) (lv' := [(4, .int (nI i)), (0, .ref b), (1, .ref (ad 106)), (2, .ref (am 0)), (3, .ref o)]) (st' := [.int r]) rfl rfl rfl ?_
  refine z_aload_n E dL_law_673 rfl 3 rfl ?_
  refine z_callVi E hZ ((k_mfirstError l D am cI cR cS cL dg mm hR).fr [] (cw ad cI cR cS c1 ++ [oE cL o f])) gL_law_X6_firstError (n := 0) rfl rfl rfl (by decide +kernel) rfl ⟨(Nat.le_of_ble_eq_true rfl), (Nat.le_of_ble_eq_true rfl)⟩ (C := RX6) rfl 0 lw_mod (As := []) (rest := [.int r]) rfl (Nat.le_of_ble_eq_true rfl) hr1 dL_law_674 (fun r2 m1 hp2 => ?_)
  refine z_eq (ws' := mw am cI dg m1 ++ (cw ad cI cR cS c1 ++ [oE cL o f])) (lv' := [(4, .int (nI i)), (0, .ref b), (1, .ref (ad 106)), (2, .ref (am 0)), (3, .ref o)]) (st' := [.int r2, .int r]) rfl rfl rfl ?_
  obtain ⟨k1, hf1, hr1q, hc1⟩ := hp
  obtain ⟨k2, hr2, hf2, hRf⟩ := hp2
  have hkk := pFF_unique hf1 hf2
  subst hkk
  have hk : r = r2 := hr1q.trans hr2.symm
  have hR2 : zR (B + 180) c1 m1 q z L := by rw [hc1]; exact zR_mono (by omega) hRf
  refine z_icmp_eq_t (tgt := 1457) E dL_law_677 (by decide) hk ?_
  refine z_widen (k := cells + 1) (n := slots + 6) (by omega) (by omega) ?_
  exact K _ _ _ _ _ _ _ hR2
set_option maxHeartbeats 1000000 in
set_option maxRecDepth 100000 in
theorem lc_play (hl : l.stackTraces = false) (E : zE p s m args c D (cK cI cR cS cL) A 9 cL_law RL wsL_law) (hZ : zSK A s s.heap) (hN : zNC s) (hX : va_X b Ls xs s s.heap) (hbl : b < s.heap.size) (hbA : ¬ A b) (hi : i + 5 ≤ Ls) (hLs : Ls ≤ 2560) (hroom : cells + 1 ≤ room_1.cells ∧ slots + 6 ≤ room_1.slots) (hB : B ≤ 1000000) (hR : zR B cm mm q z L) (K : ∀ (c2 m2 : zM) (d2 : Int64) (f2 : Nat → Int64) (q2 z2 L2 : Nat), zR (B + 180) c2 m2 q2 z2 L2 → zW p l e room_1 s m args below meth c D A Q 9 (mw am cI d2 m2 ++ (cw ad cI cR cS c2 ++ [oE cL o f2])) (cells + 1) (slots + 6) 1457 [(4, .int (nI i)), (0, .ref b), (1, .ref (ad 106)), (2, .ref (am 0)), (3, .ref o)] []) : zW p l e room_1 s m args below meth c D A Q 9 (mw am cI dg mm ++ (cw ad cI cR cS cm ++ [oE cL o f])) cells slots 682 [(4, .int (nI i)), (0, .ref b), (1, .ref (ad 106)), (2, .ref (am 0)), (3, .ref o)] [] := by
  obtain ⟨hok, hS⟩ := zSite_0 hR.1
  have hq := hR.2.1.1
  have hn := hR.2.1.2.2.1
  have hz := hR.2.1.2.1
  have hs := hR.2.1.2.2.2.1
  have hL := hR.2.2.1
  have hlen := hR.2.2.2.1
  refine z_aload_n E dL_law_682 rfl 2 rfl ?_
  refine z_aload_n E dL_law_683 rfl 4 rfl ?_
  refine z_callSW E hZ hN ((w_play l D ad cI cR cS cL cm hl o f hL hlen hq hn hz hs hok (fun h => zYes_rows (zWh_yes (zR_cd hR) h))).frR (mw am cI dg mm)) gL_law_L_play (n := 2) rfl rfl rfl (by decide +kernel) rfl ⟨(Nat.le_of_ble_eq_true rfl), (Nat.le_of_ble_eq_true rfl)⟩ (As := [.ref (ad 106), .ref o]) (rest := []) rfl (Nat.le_of_ble_eq_true rfl) hroom dL_law_684 (fun r u hp => ?_)
  obtain ⟨c1, f1⟩ := u
  refine z_eq (ws' := mw am cI dg mm ++ (cw ad cI cR cS c1 ++ [oE cL o f1])) (lv' := [(4, .int (nI i)), (0, .ref b), (1, .ref (ad 106)), (2, .ref (am 0)), (3, .ref o)]) (st' := [.int r]) rfl rfl rfl ?_
  refine z_istore (lv' := [(5, .int r), (4, .int (nI i)), (0, .ref b), (1, .ref (ad 106)), (2, .ref (am 0)), (3, .ref o)]) E dL_law_687 (by decide) rfl ?_
  refine z_aload_n E dL_law_689 rfl 4 rfl ?_
  refine z_callVi E hZ ((k_mplay l D am cI cR cS cL dg mm hR ).fr [] (cw ad cI cR cS c1 ++ [oE cL o f1])) gL_law_X6_play (n := 0) rfl rfl rfl (by decide +kernel) rfl ⟨(Nat.le_of_ble_eq_true rfl), (Nat.le_of_ble_eq_true rfl)⟩ (C := RX6) rfl 0 lw_mod (As := []) (rest := []) rfl (Nat.le_of_ble_eq_true rfl) hroom dL_law_690 (fun b2 m1 hp2 => ?_)
  refine z_eq (ws' := mw am cI dg m1 ++ (cw ad cI cR cS c1 ++ [oE cL o f1])) (lv' := [(5, .int r), (4, .int (nI i)), (0, .ref b), (1, .ref (ad 106)), (2, .ref (am 0)), (3, .ref o)]) (st' := [.int b2]) rfl rfl rfl ?_
  refine z_istore (lv' := [(6, .int b2), (5, .int r), (4, .int (nI i)), (0, .ref b), (1, .ref (ad 106)), (2, .ref (am 0)), (3, .ref o)]) E dL_law_693 (by decide) rfl ?_
  refine z_aload_n E dL_law_695 rfl 5 rfl ?_
  refine z_callVi E hZ ((k_thrown l D am cI cR cS cL dg m1).fr [] (cw ad cI cR cS c1 ++ [oE cL o f1])) gL_law_X6_thrown (n := 0) rfl rfl rfl (by decide +kernel) rfl ⟨(Nat.le_of_ble_eq_true rfl), (Nat.le_of_ble_eq_true rfl)⟩ (C := RX6) rfl 0 lw_mod (As := []) (rest := []) rfl (Nat.le_of_ble_eq_true rfl) hroom dL_law_696 (fun r3 u3 hp3 => ?_)
  rw [hp3.1, hp3.2]
  refine z_eq (ws' := mw am cI dg m1 ++ (cw ad cI cR cS c1 ++ [oE cL o f1])) (lv' := [(6, .int b2), (5, .int r), (4, .int (nI i)), (0, .ref b), (1, .ref (ad 106)), (2, .ref (am 0)), (3, .ref o)]) (st' := [.int (m1 0 0)]) rfl rfl rfl ?_
  obtain ⟨hk, h0, q2, z2, L2, hR2⟩ := pWrP_ans hp hp2
  dsimp only at h0 hR2
  refine z_iload E dL_law_699 1 rfl ?_
  refine z_icmp_eq_t (tgt := 706) E dL_law_701 (by decide) hk ?_
  refine z_iload E dL_law_706 1 rfl ?_
  refine z_if_ne (tgt := 723) E dL_law_708 (by decide) (fun cr => ?_) (fun cr => ?_)
  · skip
    refine z_goto (tgt := 1457) E dL_law_723 (by decide) ?_
    refine z_lv [2, 3, 4, 5, 6] (lv' := [(4, .int (nI i)), (0, .ref b), (1, .ref (ad 106)), (2, .ref (am 0)), (3, .ref o)]) rfl ?_
    exact K _ _ _ _ _ _ _ hR2
  · skip
    have hr0 : r = 0 := cr
    refine z_aload_n E dL_law_711 rfl 6 rfl ?_
    refine z_iconst (v := 0) E dL_law_712 (by decide) ?_
    refine z_lald E 111 3 (f := f1) lw_out rfl (zvin rfl) (v := f1 0) rfl dL_law_713 ?_
    refine z_iload E dL_law_714 0 rfl ?_
    refine z_i2l (v := b2.toInt64) E dL_law_716 rfl ?_
    refine z_lcmp E dL_law_717 ?_
    refine z_if_eq_t (tgt := 723) E dL_law_718 (by decide) ((lg_cmp_eq _ _).mpr (h0 hr0)) ?_
    refine z_goto (tgt := 1457) E dL_law_723 (by decide) ?_
    refine z_lv [2, 3, 4, 5, 6] (lv' := [(4, .int (nI i)), (0, .ref b), (1, .ref (ad 106)), (2, .ref (am 0)), (3, .ref o)]) rfl ?_
    exact K _ _ _ _ _ _ _ hR2
set_option maxHeartbeats 1000000 in
set_option maxRecDepth 100000 in
theorem lc_undo (hl : l.stackTraces = false) (E : zE p s m args c D (cK cI cR cS cL) A 9 cL_law RL wsL_law) (hZ : zSK A s s.heap) (hN : zNC s) (hX : va_X b Ls xs s s.heap) (hbl : b < s.heap.size) (hbA : ¬ A b) (hi : i + 5 ≤ Ls) (hLs : Ls ≤ 2560) (hroom : cells + 1 ≤ room_1.cells ∧ slots + 6 ≤ room_1.slots) (hB : B ≤ 1000000) (hR : zR B cm mm q z L) (K : ∀ (c2 m2 : zM) (d2 : Int64) (f2 : Nat → Int64) (q2 z2 L2 : Nat), zR (B + 180) c2 m2 q2 z2 L2 → zW p l e room_1 s m args below meth c D A Q 9 (mw am cI d2 m2 ++ (cw ad cI cR cS c2 ++ [oE cL o f2])) (cells + 1) (slots + 6) 1457 [(4, .int (nI i)), (0, .ref b), (1, .ref (ad 106)), (2, .ref (am 0)), (3, .ref o)] []) : zW p l e room_1 s m args below meth c D A Q 9 (mw am cI dg mm ++ (cw ad cI cR cS cm ++ [oE cL o f])) cells slots 726 [(4, .int (nI i)), (0, .ref b), (1, .ref (ad 106)), (2, .ref (am 0)), (3, .ref o)] [] := by
  obtain ⟨hok, hS⟩ := zSite_0 hR.1
  have hq := hR.2.1.1
  have hn := hR.2.1.2.2.1
  have hz := hR.2.1.2.1
  have hs := hR.2.1.2.2.2.1
  have hL := hR.2.2.1
  have hlen := hR.2.2.2.1
  refine z_aload_n E dL_law_726 rfl 2 rfl ?_
  refine z_aload_n E dL_law_727 rfl 4 rfl ?_
  refine z_callSW E hZ hN ((w_undo l D ad cI cR cS cL cm hl o f hq hn hz hs).frR (mw am cI dg mm)) gL_law_L_undo (n := 2) rfl rfl rfl (by decide +kernel) rfl ⟨(Nat.le_of_ble_eq_true rfl), (Nat.le_of_ble_eq_true rfl)⟩ (As := [.ref (ad 106), .ref o]) (rest := []) rfl (Nat.le_of_ble_eq_true rfl) hroom dL_law_728 (fun r u hp => ?_)
  obtain ⟨c1, f1⟩ := u
  refine z_eq (ws' := mw am cI dg mm ++ (cw ad cI cR cS c1 ++ [oE cL o f1])) (lv' := [(4, .int (nI i)), (0, .ref b), (1, .ref (ad 106)), (2, .ref (am 0)), (3, .ref o)]) (st' := [.int r]) rfl rfl rfl ?_
  refine z_istore (lv' := [(5, .int r), (4, .int (nI i)), (0, .ref b), (1, .ref (ad 106)), (2, .ref (am 0)), (3, .ref o)]) E dL_law_731 (by decide) rfl ?_
  refine z_aload_n E dL_law_733 rfl 4 rfl ?_
  refine z_callVi E hZ ((k_mundo l D am cI cR cS cL dg mm hR ).fr [] (cw ad cI cR cS c1 ++ [oE cL o f1])) gL_law_X6_undo (n := 0) rfl rfl rfl (by decide +kernel) rfl ⟨(Nat.le_of_ble_eq_true rfl), (Nat.le_of_ble_eq_true rfl)⟩ (C := RX6) rfl 0 lw_mod (As := []) (rest := []) rfl (Nat.le_of_ble_eq_true rfl) hroom dL_law_734 (fun b2 m1 hp2 => ?_)
  refine z_eq (ws' := mw am cI dg m1 ++ (cw ad cI cR cS c1 ++ [oE cL o f1])) (lv' := [(5, .int r), (4, .int (nI i)), (0, .ref b), (1, .ref (ad 106)), (2, .ref (am 0)), (3, .ref o)]) (st' := [.int b2]) rfl rfl rfl ?_
  refine z_istore (lv' := [(6, .int b2), (5, .int r), (4, .int (nI i)), (0, .ref b), (1, .ref (ad 106)), (2, .ref (am 0)), (3, .ref o)]) E dL_law_737 (by decide) rfl ?_
  refine z_aload_n E dL_law_739 rfl 5 rfl ?_
  refine z_callVi E hZ ((k_thrown l D am cI cR cS cL dg m1).fr [] (cw ad cI cR cS c1 ++ [oE cL o f1])) gL_law_X6_thrown (n := 0) rfl rfl rfl (by decide +kernel) rfl ⟨(Nat.le_of_ble_eq_true rfl), (Nat.le_of_ble_eq_true rfl)⟩ (C := RX6) rfl 0 lw_mod (As := []) (rest := []) rfl (Nat.le_of_ble_eq_true rfl) hroom dL_law_740 (fun r3 u3 hp3 => ?_)
  rw [hp3.1, hp3.2]
  refine z_eq (ws' := mw am cI dg m1 ++ (cw ad cI cR cS c1 ++ [oE cL o f1])) (lv' := [(6, .int b2), (5, .int r), (4, .int (nI i)), (0, .ref b), (1, .ref (ad 106)), (2, .ref (am 0)), (3, .ref o)]) (st' := [.int (m1 0 0)]) rfl rfl rfl ?_
  obtain ⟨hk, h0, hP⟩ := pWr_ans cdU_ne hp hp2
  obtain ⟨q2, z2, hR2⟩ := hP
  dsimp only at h0 hR2
  refine z_iload E dL_law_743 1 rfl ?_
  refine z_icmp_eq_t (tgt := 750) E dL_law_745 (by decide) hk ?_
  refine z_iload E dL_law_750 1 rfl ?_
  refine z_if_ne (tgt := 767) E dL_law_752 (by decide) (fun cr => ?_) (fun cr => ?_)
  · skip
    refine z_goto (tgt := 1457) E dL_law_767 (by decide) ?_
    refine z_lv [2, 3, 4, 5, 6] (lv' := [(4, .int (nI i)), (0, .ref b), (1, .ref (ad 106)), (2, .ref (am 0)), (3, .ref o)]) rfl ?_
    exact K _ _ _ _ _ _ _ hR2
  · skip
    have hr0 : r = 0 := cr
    refine z_aload_n E dL_law_755 rfl 6 rfl ?_
    refine z_iconst (v := 0) E dL_law_756 (by decide) ?_
    refine z_lald E 111 3 (f := f1) lw_out rfl (zvin rfl) (v := f1 0) rfl dL_law_757 ?_
    refine z_iload E dL_law_758 0 rfl ?_
    refine z_i2l (v := b2.toInt64) E dL_law_760 rfl ?_
    refine z_lcmp E dL_law_761 ?_
    refine z_if_eq_t (tgt := 767) E dL_law_762 (by decide) ((lg_cmp_eq _ _).mpr (h0 hr0)) ?_
    refine z_goto (tgt := 1457) E dL_law_767 (by decide) ?_
    refine z_lv [2, 3, 4, 5, 6] (lv' := [(4, .int (nI i)), (0, .ref b), (1, .ref (ad 106)), (2, .ref (am 0)), (3, .ref o)]) rfl ?_
    exact K _ _ _ _ _ _ _ hR2
set_option maxHeartbeats 1000000 in
set_option maxRecDepth 100000 in
theorem lc_ladder (hl : l.stackTraces = false) (E : zE p s m args c D (cK cI cR cS cL) A 9 cL_law RL wsL_law) (hZ : zSK A s s.heap) (hN : zNC s) (hX : va_X b Ls xs s s.heap) (hbl : b < s.heap.size) (hbA : ¬ A b) (hi : i + 5 ≤ Ls) (hLs : Ls ≤ 2560) (hroom : cells + 1 ≤ room_1.cells ∧ slots + 6 ≤ room_1.slots) (hB : B ≤ 1000000) (hR : zR B cm mm q z L) (K : ∀ (c2 m2 : zM) (d2 : Int64) (f2 : Nat → Int64) (q2 z2 L2 : Nat), zR (B + 180) c2 m2 q2 z2 L2 → zW p l e room_1 s m args below meth c D A Q 9 (mw am cI d2 m2 ++ (cw ad cI cR cS c2 ++ [oE cL o f2])) (cells + 1) (slots + 6) 1457 [(4, .int (nI i)), (0, .ref b), (1, .ref (ad 106)), (2, .ref (am 0)), (3, .ref o)] []) : zW p l e room_1 s m args below meth c D A Q 9 (mw am cI dg mm ++ (cw ad cI cR cS cm ++ [oE cL o f])) cells slots 770 [(4, .int (nI i)), (0, .ref b), (1, .ref (ad 106)), (2, .ref (am 0)), (3, .ref o)] [] := by
  obtain ⟨hok, hS⟩ := zSite_0 hR.1
  have hq := hR.2.1.1
  have hn := hR.2.1.2.2.1
  have hz := hR.2.1.2.1
  have hs := hR.2.1.2.2.2.1
  have hL := hR.2.2.1
  have hlen := hR.2.2.2.1
  refine z_aload_n E dL_law_770 rfl 2 rfl ?_
  refine z_aload_n E dL_law_771 rfl 1 rfl ?_
  refine z_iload E dL_law_772 0 rfl ?_
  refine z_iconst (v := 1) E dL_law_774 (by decide) ?_
  refine z_iaddV (v := nI (i + 1)) E dL_law_775 (nI_add i 1) ?_
  obtain ⟨x1, hx1⟩ : ∃ v, xs (nI (i + 1)).toNatClampNeg = v := ⟨_, rfl⟩
  refine z_sld E hX hbl hbA (vp_in_nI (by omega) (by omega)) hx1 dL_law_776 ?_
  refine z_aload_n E dL_law_777 rfl 1 rfl ?_
  refine z_iload E dL_law_778 0 rfl ?_
  refine z_iconst (v := 2) E dL_law_780 (by decide) ?_
  refine z_iaddV (v := nI (i + 2)) E dL_law_781 (nI_add i 2) ?_
  obtain ⟨x2, hx2⟩ : ∃ v, xs (nI (i + 2)).toNatClampNeg = v := ⟨_, rfl⟩
  refine z_sld E hX hbl hbA (vp_in_nI (by omega) (by omega)) hx2 dL_law_782 ?_
  refine z_aload_n E dL_law_783 rfl 4 rfl ?_
  refine z_callSW E hZ hN ((w_ladder l D ad cI cR cS cL cm hl o f x1 x2 ).frR (mw am cI dg mm)) gL_law_L_ladder (n := 4) rfl rfl rfl (by decide +kernel) rfl ⟨(Nat.le_of_ble_eq_true rfl), (Nat.le_of_ble_eq_true rfl)⟩ (As := [.ref (ad 106), .int x1, .int x2, .ref o]) (rest := []) rfl (Nat.le_of_ble_eq_true rfl) hroom dL_law_784 (fun r u hp => ?_)
  obtain ⟨c1, f1⟩ := u
  refine z_eq (ws' := mw am cI dg mm ++ (cw ad cI cR cS c1 ++ [oE cL o f1])) (lv' := [(4, .int (nI i)), (0, .ref b), (1, .ref (ad 106)), (2, .ref (am 0)), (3, .ref o)]) (st' := [.int r]) rfl rfl rfl ?_
  refine z_istore (lv' := [(5, .int r), (4, .int (nI i)), (0, .ref b), (1, .ref (ad 106)), (2, .ref (am 0)), (3, .ref o)]) E dL_law_787 (by decide) rfl ?_
  refine z_aload_n E dL_law_789 rfl 4 rfl ?_
  refine z_aload_n E dL_law_790 rfl 2 rfl ?_
  refine z_iload E dL_law_791 1 rfl ?_
  refine z_iconst (v := 1) E dL_law_793 (by decide) ?_
  refine z_iaddV (v := nI (i + 1)) E dL_law_794 (nI_add i 1) ?_
  refine z_sld E hX hbl hbA (vp_in_nI (by omega) (by omega)) hx1 dL_law_795 ?_
  refine z_aload_n E dL_law_796 rfl 2 rfl ?_
  refine z_iload E dL_law_797 1 rfl ?_
  refine z_iconst (v := 2) E dL_law_799 (by decide) ?_
  refine z_iaddV (v := nI (i + 2)) E dL_law_800 (nI_add i 2) ?_
  refine z_sld E hX hbl hbA (vp_in_nI (by omega) (by omega)) hx2 dL_law_801 ?_
  refine z_callVi E hZ ((k_mladder l D am cI cR cS cL dg mm hR x1 x2).fr [] (cw ad cI cR cS c1 ++ [oE cL o f1])) gL_law_X6_ladder (n := 2) rfl rfl rfl (by decide +kernel) rfl ⟨(Nat.le_of_ble_eq_true rfl), (Nat.le_of_ble_eq_true rfl)⟩ (C := RX6) rfl 0 lw_mod (As := [.int x1, .int x2]) (rest := []) rfl (Nat.le_of_ble_eq_true rfl) hroom dL_law_802 (fun b2 m1 hp2 => ?_)
  refine z_eq (ws' := mw am cI dg m1 ++ (cw ad cI cR cS c1 ++ [oE cL o f1])) (lv' := [(5, .int r), (4, .int (nI i)), (0, .ref b), (1, .ref (ad 106)), (2, .ref (am 0)), (3, .ref o)]) (st' := [.int b2]) rfl rfl rfl ?_
  refine z_istore (lv' := [(6, .int b2), (5, .int r), (4, .int (nI i)), (0, .ref b), (1, .ref (ad 106)), (2, .ref (am 0)), (3, .ref o)]) E dL_law_805 (by decide) rfl ?_
  refine z_aload_n E dL_law_807 rfl 5 rfl ?_
  refine z_callVi E hZ ((k_thrown l D am cI cR cS cL dg m1).fr [] (cw ad cI cR cS c1 ++ [oE cL o f1])) gL_law_X6_thrown (n := 0) rfl rfl rfl (by decide +kernel) rfl ⟨(Nat.le_of_ble_eq_true rfl), (Nat.le_of_ble_eq_true rfl)⟩ (C := RX6) rfl 0 lw_mod (As := []) (rest := []) rfl (Nat.le_of_ble_eq_true rfl) hroom dL_law_808 (fun r3 u3 hp3 => ?_)
  rw [hp3.1, hp3.2]
  refine z_eq (ws' := mw am cI dg m1 ++ (cw ad cI cR cS c1 ++ [oE cL o f1])) (lv' := [(6, .int b2), (5, .int r), (4, .int (nI i)), (0, .ref b), (1, .ref (ad 106)), (2, .ref (am 0)), (3, .ref o)]) (st' := [.int (m1 0 0)]) rfl rfl rfl ?_
  obtain ⟨hk, h0, hP⟩ := pWr_ans cdL_ne hp hp2
  obtain ⟨q2, z2, hR2⟩ := hP
  dsimp only at h0 hR2
  refine z_iload E dL_law_811 1 rfl ?_
  refine z_icmp_eq_t (tgt := 818) E dL_law_813 (by decide) hk ?_
  refine z_iload E dL_law_818 1 rfl ?_
  refine z_if_ne (tgt := 835) E dL_law_820 (by decide) (fun cr => ?_) (fun cr => ?_)
  · skip
    refine z_goto (tgt := 1457) E dL_law_835 (by decide) ?_
    refine z_lv [2, 3, 4, 5, 6] (lv' := [(4, .int (nI i)), (0, .ref b), (1, .ref (ad 106)), (2, .ref (am 0)), (3, .ref o)]) rfl ?_
    exact K _ _ _ _ _ _ _ hR2
  · skip
    have hr0 : r = 0 := cr
    refine z_aload_n E dL_law_823 rfl 6 rfl ?_
    refine z_iconst (v := 0) E dL_law_824 (by decide) ?_
    refine z_lald E 111 3 (f := f1) lw_out rfl (zvin rfl) (v := f1 0) rfl dL_law_825 ?_
    refine z_iload E dL_law_826 0 rfl ?_
    refine z_i2l (v := b2.toInt64) E dL_law_828 rfl ?_
    refine z_lcmp E dL_law_829 ?_
    refine z_if_eq_t (tgt := 835) E dL_law_830 (by decide) ((lg_cmp_eq _ _).mpr (h0 hr0)) ?_
    refine z_goto (tgt := 1457) E dL_law_835 (by decide) ?_
    refine z_lv [2, 3, 4, 5, 6] (lv' := [(4, .int (nI i)), (0, .ref b), (1, .ref (ad 106)), (2, .ref (am 0)), (3, .ref o)]) rfl ?_
    exact K _ _ _ _ _ _ _ hR2
set_option maxHeartbeats 1000000 in
set_option maxRecDepth 100000 in
theorem lc_person (hl : l.stackTraces = false) (E : zE p s m args c D (cK cI cR cS cL) A 9 cL_law RL wsL_law) (hZ : zSK A s s.heap) (hN : zNC s) (hX : va_X b Ls xs s s.heap) (hbl : b < s.heap.size) (hbA : ¬ A b) (hi : i + 5 ≤ Ls) (hLs : Ls ≤ 2560) (hroom : cells + 1 ≤ room_1.cells ∧ slots + 6 ≤ room_1.slots) (hB : B ≤ 1000000) (hR : zR B cm mm q z L) (K : ∀ (c2 m2 : zM) (d2 : Int64) (f2 : Nat → Int64) (q2 z2 L2 : Nat), zR (B + 180) c2 m2 q2 z2 L2 → zW p l e room_1 s m args below meth c D A Q 9 (mw am cI d2 m2 ++ (cw ad cI cR cS c2 ++ [oE cL o f2])) (cells + 1) (slots + 6) 1457 [(4, .int (nI i)), (0, .ref b), (1, .ref (ad 106)), (2, .ref (am 0)), (3, .ref o)] []) : zW p l e room_1 s m args below meth c D A Q 9 (mw am cI dg mm ++ (cw ad cI cR cS cm ++ [oE cL o f])) cells slots 838 [(4, .int (nI i)), (0, .ref b), (1, .ref (ad 106)), (2, .ref (am 0)), (3, .ref o)] [] := by
  obtain ⟨hok, hS⟩ := zSite_0 hR.1
  have hq := hR.2.1.1
  have hn := hR.2.1.2.2.1
  have hz := hR.2.1.2.1
  have hs := hR.2.1.2.2.2.1
  have hL := hR.2.2.1
  have hlen := hR.2.2.2.1
  refine z_aload_n E dL_law_838 rfl 2 rfl ?_
  refine z_aload_n E dL_law_839 rfl 1 rfl ?_
  refine z_iload E dL_law_840 0 rfl ?_
  refine z_iconst (v := 1) E dL_law_842 (by decide) ?_
  refine z_iaddV (v := nI (i + 1)) E dL_law_843 (nI_add i 1) ?_
  obtain ⟨x1, hx1⟩ : ∃ v, xs (nI (i + 1)).toNatClampNeg = v := ⟨_, rfl⟩
  refine z_sld E hX hbl hbA (vp_in_nI (by omega) (by omega)) hx1 dL_law_844 ?_
  refine z_aload_n E dL_law_845 rfl 1 rfl ?_
  refine z_iload E dL_law_846 0 rfl ?_
  refine z_iconst (v := 2) E dL_law_848 (by decide) ?_
  refine z_iaddV (v := nI (i + 2)) E dL_law_849 (nI_add i 2) ?_
  obtain ⟨x2, hx2⟩ : ∃ v, xs (nI (i + 2)).toNatClampNeg = v := ⟨_, rfl⟩
  refine z_sld E hX hbl hbA (vp_in_nI (by omega) (by omega)) hx2 dL_law_850 ?_
  refine z_aload_n E dL_law_851 rfl 1 rfl ?_
  refine z_iload E dL_law_852 0 rfl ?_
  refine z_iconst (v := 3) E dL_law_854 (by decide) ?_
  refine z_iaddV (v := nI (i + 3)) E dL_law_855 (nI_add i 3) ?_
  obtain ⟨x3, hx3⟩ : ∃ v, xs (nI (i + 3)).toNatClampNeg = v := ⟨_, rfl⟩
  refine z_sld E hX hbl hbA (vp_in_nI (by omega) (by omega)) hx3 dL_law_856 ?_
  refine z_aload_n E dL_law_857 rfl 4 rfl ?_
  refine z_callSW E hZ hN ((w_person l D ad cI cR cS cL cm hl o f x1 x2 x3 ).frR (mw am cI dg mm)) gL_law_L_person (n := 5) rfl rfl rfl (by decide +kernel) rfl ⟨(Nat.le_of_ble_eq_true rfl), (Nat.le_of_ble_eq_true rfl)⟩ (As := [.ref (ad 106), .int x1, .int x2, .int x3, .ref o]) (rest := []) rfl (Nat.le_of_ble_eq_true rfl) hroom dL_law_858 (fun r u hp => ?_)
  obtain ⟨c1, f1⟩ := u
  refine z_eq (ws' := mw am cI dg mm ++ (cw ad cI cR cS c1 ++ [oE cL o f1])) (lv' := [(4, .int (nI i)), (0, .ref b), (1, .ref (ad 106)), (2, .ref (am 0)), (3, .ref o)]) (st' := [.int r]) rfl rfl rfl ?_
  refine z_istore (lv' := [(5, .int r), (4, .int (nI i)), (0, .ref b), (1, .ref (ad 106)), (2, .ref (am 0)), (3, .ref o)]) E dL_law_861 (by decide) rfl ?_
  refine z_aload_n E dL_law_863 rfl 4 rfl ?_
  refine z_aload_n E dL_law_864 rfl 2 rfl ?_
  refine z_iload E dL_law_865 1 rfl ?_
  refine z_iconst (v := 1) E dL_law_867 (by decide) ?_
  refine z_iaddV (v := nI (i + 1)) E dL_law_868 (nI_add i 1) ?_
  refine z_sld E hX hbl hbA (vp_in_nI (by omega) (by omega)) hx1 dL_law_869 ?_
  refine z_aload_n E dL_law_870 rfl 2 rfl ?_
  refine z_iload E dL_law_871 1 rfl ?_
  refine z_iconst (v := 2) E dL_law_873 (by decide) ?_
  refine z_iaddV (v := nI (i + 2)) E dL_law_874 (nI_add i 2) ?_
  refine z_sld E hX hbl hbA (vp_in_nI (by omega) (by omega)) hx2 dL_law_875 ?_
  refine z_aload_n E dL_law_876 rfl 2 rfl ?_
  refine z_iload E dL_law_877 1 rfl ?_
  refine z_iconst (v := 3) E dL_law_879 (by decide) ?_
  refine z_iaddV (v := nI (i + 3)) E dL_law_880 (nI_add i 3) ?_
  refine z_sld E hX hbl hbA (vp_in_nI (by omega) (by omega)) hx3 dL_law_881 ?_
  refine z_callVi E hZ ((k_mperson l D am cI cR cS cL dg mm hR x1 x2 x3).fr [] (cw ad cI cR cS c1 ++ [oE cL o f1])) gL_law_X6_person (n := 3) rfl rfl rfl (by decide +kernel) rfl ⟨(Nat.le_of_ble_eq_true rfl), (Nat.le_of_ble_eq_true rfl)⟩ (C := RX6) rfl 0 lw_mod (As := [.int x1, .int x2, .int x3]) (rest := []) rfl (Nat.le_of_ble_eq_true rfl) hroom dL_law_882 (fun b2 m1 hp2 => ?_)
  refine z_eq (ws' := mw am cI dg m1 ++ (cw ad cI cR cS c1 ++ [oE cL o f1])) (lv' := [(5, .int r), (4, .int (nI i)), (0, .ref b), (1, .ref (ad 106)), (2, .ref (am 0)), (3, .ref o)]) (st' := [.int b2]) rfl rfl rfl ?_
  refine z_istore (lv' := [(6, .int b2), (5, .int r), (4, .int (nI i)), (0, .ref b), (1, .ref (ad 106)), (2, .ref (am 0)), (3, .ref o)]) E dL_law_885 (by decide) rfl ?_
  refine z_aload_n E dL_law_887 rfl 5 rfl ?_
  refine z_callVi E hZ ((k_thrown l D am cI cR cS cL dg m1).fr [] (cw ad cI cR cS c1 ++ [oE cL o f1])) gL_law_X6_thrown (n := 0) rfl rfl rfl (by decide +kernel) rfl ⟨(Nat.le_of_ble_eq_true rfl), (Nat.le_of_ble_eq_true rfl)⟩ (C := RX6) rfl 0 lw_mod (As := []) (rest := []) rfl (Nat.le_of_ble_eq_true rfl) hroom dL_law_888 (fun r3 u3 hp3 => ?_)
  rw [hp3.1, hp3.2]
  refine z_eq (ws' := mw am cI dg m1 ++ (cw ad cI cR cS c1 ++ [oE cL o f1])) (lv' := [(6, .int b2), (5, .int r), (4, .int (nI i)), (0, .ref b), (1, .ref (ad 106)), (2, .ref (am 0)), (3, .ref o)]) (st' := [.int (m1 0 0)]) rfl rfl rfl ?_
  obtain ⟨hk, h0, hP⟩ := pWr_ans cdL_ne hp hp2
  obtain ⟨q2, z2, hR2⟩ := hP
  dsimp only at h0 hR2
  refine z_iload E dL_law_891 1 rfl ?_
  refine z_icmp_eq_t (tgt := 898) E dL_law_893 (by decide) hk ?_
  refine z_iload E dL_law_898 1 rfl ?_
  refine z_if_ne (tgt := 915) E dL_law_900 (by decide) (fun cr => ?_) (fun cr => ?_)
  · skip
    refine z_goto (tgt := 1457) E dL_law_915 (by decide) ?_
    refine z_lv [2, 3, 4, 5, 6] (lv' := [(4, .int (nI i)), (0, .ref b), (1, .ref (ad 106)), (2, .ref (am 0)), (3, .ref o)]) rfl ?_
    exact K _ _ _ _ _ _ _ hR2
  · skip
    have hr0 : r = 0 := cr
    refine z_aload_n E dL_law_903 rfl 6 rfl ?_
    refine z_iconst (v := 0) E dL_law_904 (by decide) ?_
    refine z_lald E 111 3 (f := f1) lw_out rfl (zvin rfl) (v := f1 0) rfl dL_law_905 ?_
    refine z_iload E dL_law_906 0 rfl ?_
    refine z_i2l (v := b2.toInt64) E dL_law_908 rfl ?_
    refine z_lcmp E dL_law_909 ?_
    refine z_if_eq_t (tgt := 915) E dL_law_910 (by decide) ((lg_cmp_eq _ _).mpr (h0 hr0)) ?_
    refine z_goto (tgt := 1457) E dL_law_915 (by decide) ?_
    refine z_lv [2, 3, 4, 5, 6] (lv' := [(4, .int (nI i)), (0, .ref b), (1, .ref (ad 106)), (2, .ref (am 0)), (3, .ref o)]) rfl ?_
    exact K _ _ _ _ _ _ _ hR2
set_option maxHeartbeats 1000000 in
set_option maxRecDepth 100000 in
theorem lc_force (hl : l.stackTraces = false) (E : zE p s m args c D (cK cI cR cS cL) A 9 cL_law RL wsL_law) (hZ : zSK A s s.heap) (hN : zNC s) (hX : va_X b Ls xs s s.heap) (hbl : b < s.heap.size) (hbA : ¬ A b) (hi : i + 5 ≤ Ls) (hLs : Ls ≤ 2560) (hroom : cells + 1 ≤ room_1.cells ∧ slots + 6 ≤ room_1.slots) (hB : B ≤ 1000000) (hR : zR B cm mm q z L) (K : ∀ (c2 m2 : zM) (d2 : Int64) (f2 : Nat → Int64) (q2 z2 L2 : Nat), zR (B + 180) c2 m2 q2 z2 L2 → zW p l e room_1 s m args below meth c D A Q 9 (mw am cI d2 m2 ++ (cw ad cI cR cS c2 ++ [oE cL o f2])) (cells + 1) (slots + 6) 1457 [(4, .int (nI i)), (0, .ref b), (1, .ref (ad 106)), (2, .ref (am 0)), (3, .ref o)] []) : zW p l e room_1 s m args below meth c D A Q 9 (mw am cI dg mm ++ (cw ad cI cR cS cm ++ [oE cL o f])) cells slots 918 [(4, .int (nI i)), (0, .ref b), (1, .ref (ad 106)), (2, .ref (am 0)), (3, .ref o)] [] := by
  obtain ⟨hok, hS⟩ := zSite_0 hR.1
  have hq := hR.2.1.1
  have hn := hR.2.1.2.2.1
  have hz := hR.2.1.2.1
  have hs := hR.2.1.2.2.2.1
  have hL := hR.2.2.1
  have hlen := hR.2.2.2.1
  refine z_aload_n E dL_law_918 rfl 2 rfl ?_
  refine z_aload_n E dL_law_919 rfl 1 rfl ?_
  refine z_iload E dL_law_920 0 rfl ?_
  refine z_iconst (v := 1) E dL_law_922 (by decide) ?_
  refine z_iaddV (v := nI (i + 1)) E dL_law_923 (nI_add i 1) ?_
  obtain ⟨x1, hx1⟩ : ∃ v, xs (nI (i + 1)).toNatClampNeg = v := ⟨_, rfl⟩
  refine z_sld E hX hbl hbA (vp_in_nI (by omega) (by omega)) hx1 dL_law_924 ?_
  refine z_aload_n E dL_law_925 rfl 1 rfl ?_
  refine z_iload E dL_law_926 0 rfl ?_
  refine z_iconst (v := 2) E dL_law_928 (by decide) ?_
  refine z_iaddV (v := nI (i + 2)) E dL_law_929 (nI_add i 2) ?_
  obtain ⟨x2, hx2⟩ : ∃ v, xs (nI (i + 2)).toNatClampNeg = v := ⟨_, rfl⟩
  refine z_sld E hX hbl hbA (vp_in_nI (by omega) (by omega)) hx2 dL_law_930 ?_
  refine z_aload_n E dL_law_931 rfl 4 rfl ?_
  refine z_callSW E hZ hN ((w_force l D ad cI cR cS cL cm hl o f x1 x2 ).frR (mw am cI dg mm)) gL_law_L_force (n := 4) rfl rfl rfl (by decide +kernel) rfl ⟨(Nat.le_of_ble_eq_true rfl), (Nat.le_of_ble_eq_true rfl)⟩ (As := [.ref (ad 106), .int x1, .int x2, .ref o]) (rest := []) rfl (Nat.le_of_ble_eq_true rfl) hroom dL_law_932 (fun r u hp => ?_)
  obtain ⟨c1, f1⟩ := u
  refine z_eq (ws' := mw am cI dg mm ++ (cw ad cI cR cS c1 ++ [oE cL o f1])) (lv' := [(4, .int (nI i)), (0, .ref b), (1, .ref (ad 106)), (2, .ref (am 0)), (3, .ref o)]) (st' := [.int r]) rfl rfl rfl ?_
  refine z_istore (lv' := [(5, .int r), (4, .int (nI i)), (0, .ref b), (1, .ref (ad 106)), (2, .ref (am 0)), (3, .ref o)]) E dL_law_935 (by decide) rfl ?_
  refine z_aload_n E dL_law_937 rfl 4 rfl ?_
  refine z_aload_n E dL_law_938 rfl 2 rfl ?_
  refine z_iload E dL_law_939 1 rfl ?_
  refine z_iconst (v := 1) E dL_law_941 (by decide) ?_
  refine z_iaddV (v := nI (i + 1)) E dL_law_942 (nI_add i 1) ?_
  refine z_sld E hX hbl hbA (vp_in_nI (by omega) (by omega)) hx1 dL_law_943 ?_
  refine z_aload_n E dL_law_944 rfl 2 rfl ?_
  refine z_iload E dL_law_945 1 rfl ?_
  refine z_iconst (v := 2) E dL_law_947 (by decide) ?_
  refine z_iaddV (v := nI (i + 2)) E dL_law_948 (nI_add i 2) ?_
  refine z_sld E hX hbl hbA (vp_in_nI (by omega) (by omega)) hx2 dL_law_949 ?_
  refine z_callVi E hZ ((k_mforce l D am cI cR cS cL dg mm hR x1 x2).fr [] (cw ad cI cR cS c1 ++ [oE cL o f1])) gL_law_X6_force (n := 2) rfl rfl rfl (by decide +kernel) rfl ⟨(Nat.le_of_ble_eq_true rfl), (Nat.le_of_ble_eq_true rfl)⟩ (C := RX6) rfl 0 lw_mod (As := [.int x1, .int x2]) (rest := []) rfl (Nat.le_of_ble_eq_true rfl) hroom dL_law_950 (fun b2 m1 hp2 => ?_)
  refine z_eq (ws' := mw am cI dg m1 ++ (cw ad cI cR cS c1 ++ [oE cL o f1])) (lv' := [(5, .int r), (4, .int (nI i)), (0, .ref b), (1, .ref (ad 106)), (2, .ref (am 0)), (3, .ref o)]) (st' := [.int b2]) rfl rfl rfl ?_
  refine z_istore (lv' := [(6, .int b2), (5, .int r), (4, .int (nI i)), (0, .ref b), (1, .ref (ad 106)), (2, .ref (am 0)), (3, .ref o)]) E dL_law_953 (by decide) rfl ?_
  refine z_aload_n E dL_law_955 rfl 5 rfl ?_
  refine z_callVi E hZ ((k_thrown l D am cI cR cS cL dg m1).fr [] (cw ad cI cR cS c1 ++ [oE cL o f1])) gL_law_X6_thrown (n := 0) rfl rfl rfl (by decide +kernel) rfl ⟨(Nat.le_of_ble_eq_true rfl), (Nat.le_of_ble_eq_true rfl)⟩ (C := RX6) rfl 0 lw_mod (As := []) (rest := []) rfl (Nat.le_of_ble_eq_true rfl) hroom dL_law_956 (fun r3 u3 hp3 => ?_)
  rw [hp3.1, hp3.2]
  refine z_eq (ws' := mw am cI dg m1 ++ (cw ad cI cR cS c1 ++ [oE cL o f1])) (lv' := [(6, .int b2), (5, .int r), (4, .int (nI i)), (0, .ref b), (1, .ref (ad 106)), (2, .ref (am 0)), (3, .ref o)]) (st' := [.int (m1 0 0)]) rfl rfl rfl ?_
  obtain ⟨hk, h0, hP⟩ := pWr_ans cdL_ne hp hp2
  obtain ⟨q2, z2, hR2⟩ := hP
  dsimp only at h0 hR2
  refine z_iload E dL_law_959 1 rfl ?_
  refine z_icmp_eq_t (tgt := 966) E dL_law_961 (by decide) hk ?_
  refine z_iload E dL_law_966 1 rfl ?_
  refine z_if_ne (tgt := 983) E dL_law_968 (by decide) (fun cr => ?_) (fun cr => ?_)
  · skip
    refine z_goto (tgt := 1457) E dL_law_983 (by decide) ?_
    refine z_lv [2, 3, 4, 5, 6] (lv' := [(4, .int (nI i)), (0, .ref b), (1, .ref (ad 106)), (2, .ref (am 0)), (3, .ref o)]) rfl ?_
    exact K _ _ _ _ _ _ _ hR2
  · skip
    have hr0 : r = 0 := cr
    refine z_aload_n E dL_law_971 rfl 6 rfl ?_
    refine z_iconst (v := 0) E dL_law_972 (by decide) ?_
    refine z_lald E 111 3 (f := f1) lw_out rfl (zvin rfl) (v := f1 0) rfl dL_law_973 ?_
    refine z_iload E dL_law_974 0 rfl ?_
    refine z_i2l (v := b2.toInt64) E dL_law_976 rfl ?_
    refine z_lcmp E dL_law_977 ?_
    refine z_if_eq_t (tgt := 983) E dL_law_978 (by decide) ((lg_cmp_eq _ _).mpr (h0 hr0)) ?_
    refine z_goto (tgt := 1457) E dL_law_983 (by decide) ?_
    refine z_lv [2, 3, 4, 5, 6] (lv' := [(4, .int (nI i)), (0, .ref b), (1, .ref (ad 106)), (2, .ref (am 0)), (3, .ref o)]) rfl ?_
    exact K _ _ _ _ _ _ _ hR2
set_option maxHeartbeats 1000000 in
set_option maxRecDepth 100000 in
theorem lc_held (hl : l.stackTraces = false) (E : zE p s m args c D (cK cI cR cS cL) A 9 cL_law RL wsL_law) (hZ : zSK A s s.heap) (hN : zNC s) (hX : va_X b Ls xs s s.heap) (hbl : b < s.heap.size) (hbA : ¬ A b) (hi : i + 5 ≤ Ls) (hLs : Ls ≤ 2560) (hroom : cells + 1 ≤ room_1.cells ∧ slots + 6 ≤ room_1.slots) (hB : B ≤ 1000000) (hR : zR B cm mm q z L) (K : ∀ (c2 m2 : zM) (d2 : Int64) (f2 : Nat → Int64) (q2 z2 L2 : Nat), zR (B + 180) c2 m2 q2 z2 L2 → zW p l e room_1 s m args below meth c D A Q 9 (mw am cI d2 m2 ++ (cw ad cI cR cS c2 ++ [oE cL o f2])) (cells + 1) (slots + 6) 1457 [(4, .int (nI i)), (0, .ref b), (1, .ref (ad 106)), (2, .ref (am 0)), (3, .ref o)] []) : zW p l e room_1 s m args below meth c D A Q 9 (mw am cI dg mm ++ (cw ad cI cR cS cm ++ [oE cL o f])) cells slots 986 [(4, .int (nI i)), (0, .ref b), (1, .ref (ad 106)), (2, .ref (am 0)), (3, .ref o)] [] := by
  obtain ⟨hok, hS⟩ := zSite_0 hR.1
  have hq := hR.2.1.1
  have hn := hR.2.1.2.2.1
  have hz := hR.2.1.2.1
  have hs := hR.2.1.2.2.2.1
  have hL := hR.2.2.1
  have hlen := hR.2.2.2.1
  refine z_aload_n E dL_law_986 rfl 2 rfl ?_
  refine z_aload_n E dL_law_987 rfl 1 rfl ?_
  refine z_iload E dL_law_988 0 rfl ?_
  refine z_iconst (v := 1) E dL_law_990 (by decide) ?_
  refine z_iaddV (v := nI (i + 1)) E dL_law_991 (nI_add i 1) ?_
  obtain ⟨x1, hx1⟩ : ∃ v, xs (nI (i + 1)).toNatClampNeg = v := ⟨_, rfl⟩
  refine z_sld E hX hbl hbA (vp_in_nI (by omega) (by omega)) hx1 dL_law_992 ?_
  refine z_aload_n E dL_law_993 rfl 1 rfl ?_
  refine z_iload E dL_law_994 0 rfl ?_
  refine z_iconst (v := 2) E dL_law_996 (by decide) ?_
  refine z_iaddV (v := nI (i + 2)) E dL_law_997 (nI_add i 2) ?_
  obtain ⟨x2, hx2⟩ : ∃ v, xs (nI (i + 2)).toNatClampNeg = v := ⟨_, rfl⟩
  refine z_sld E hX hbl hbA (vp_in_nI (by omega) (by omega)) hx2 dL_law_998 ?_
  refine z_aload_n E dL_law_999 rfl 4 rfl ?_
  refine z_callSW E hZ hN ((w_held l D ad cI cR cS cL cm hl o f x1 x2 ).frR (mw am cI dg mm)) gL_law_L_held (n := 4) rfl rfl rfl (by decide +kernel) rfl ⟨(Nat.le_of_ble_eq_true rfl), (Nat.le_of_ble_eq_true rfl)⟩ (As := [.ref (ad 106), .int x1, .int x2, .ref o]) (rest := []) rfl (Nat.le_of_ble_eq_true rfl) hroom dL_law_1000 (fun r u hp => ?_)
  obtain ⟨c1, f1⟩ := u
  refine z_eq (ws' := mw am cI dg mm ++ (cw ad cI cR cS c1 ++ [oE cL o f1])) (lv' := [(4, .int (nI i)), (0, .ref b), (1, .ref (ad 106)), (2, .ref (am 0)), (3, .ref o)]) (st' := [.int r]) rfl rfl rfl ?_
  refine z_istore (lv' := [(5, .int r), (4, .int (nI i)), (0, .ref b), (1, .ref (ad 106)), (2, .ref (am 0)), (3, .ref o)]) E dL_law_1003 (by decide) rfl ?_
  refine z_aload_n E dL_law_1005 rfl 4 rfl ?_
  refine z_aload_n E dL_law_1006 rfl 2 rfl ?_
  refine z_iload E dL_law_1007 1 rfl ?_
  refine z_iconst (v := 1) E dL_law_1009 (by decide) ?_
  refine z_iaddV (v := nI (i + 1)) E dL_law_1010 (nI_add i 1) ?_
  refine z_sld E hX hbl hbA (vp_in_nI (by omega) (by omega)) hx1 dL_law_1011 ?_
  refine z_aload_n E dL_law_1012 rfl 2 rfl ?_
  refine z_iload E dL_law_1013 1 rfl ?_
  refine z_iconst (v := 2) E dL_law_1015 (by decide) ?_
  refine z_iaddV (v := nI (i + 2)) E dL_law_1016 (nI_add i 2) ?_
  refine z_sld E hX hbl hbA (vp_in_nI (by omega) (by omega)) hx2 dL_law_1017 ?_
  refine z_callVi E hZ ((k_mheld l D am cI cR cS cL dg mm hR x1 x2).fr [] (cw ad cI cR cS c1 ++ [oE cL o f1])) gL_law_X6_held (n := 2) rfl rfl rfl (by decide +kernel) rfl ⟨(Nat.le_of_ble_eq_true rfl), (Nat.le_of_ble_eq_true rfl)⟩ (C := RX6) rfl 0 lw_mod (As := [.int x1, .int x2]) (rest := []) rfl (Nat.le_of_ble_eq_true rfl) hroom dL_law_1018 (fun b2 m1 hp2 => ?_)
  refine z_eq (ws' := mw am cI dg m1 ++ (cw ad cI cR cS c1 ++ [oE cL o f1])) (lv' := [(5, .int r), (4, .int (nI i)), (0, .ref b), (1, .ref (ad 106)), (2, .ref (am 0)), (3, .ref o)]) (st' := [.int b2]) rfl rfl rfl ?_
  refine z_istore (lv' := [(6, .int b2), (5, .int r), (4, .int (nI i)), (0, .ref b), (1, .ref (ad 106)), (2, .ref (am 0)), (3, .ref o)]) E dL_law_1021 (by decide) rfl ?_
  refine z_aload_n E dL_law_1023 rfl 5 rfl ?_
  refine z_callVi E hZ ((k_thrown l D am cI cR cS cL dg m1).fr [] (cw ad cI cR cS c1 ++ [oE cL o f1])) gL_law_X6_thrown (n := 0) rfl rfl rfl (by decide +kernel) rfl ⟨(Nat.le_of_ble_eq_true rfl), (Nat.le_of_ble_eq_true rfl)⟩ (C := RX6) rfl 0 lw_mod (As := []) (rest := []) rfl (Nat.le_of_ble_eq_true rfl) hroom dL_law_1024 (fun r3 u3 hp3 => ?_)
  rw [hp3.1, hp3.2]
  refine z_eq (ws' := mw am cI dg m1 ++ (cw ad cI cR cS c1 ++ [oE cL o f1])) (lv' := [(6, .int b2), (5, .int r), (4, .int (nI i)), (0, .ref b), (1, .ref (ad 106)), (2, .ref (am 0)), (3, .ref o)]) (st' := [.int (m1 0 0)]) rfl rfl rfl ?_
  obtain ⟨hk, h0, hP⟩ := pWr_ans cdL_ne hp hp2
  obtain ⟨q2, z2, hR2⟩ := hP
  dsimp only at h0 hR2
  refine z_iload E dL_law_1027 1 rfl ?_
  refine z_icmp_eq_t (tgt := 1034) E dL_law_1029 (by decide) hk ?_
  refine z_iload E dL_law_1034 1 rfl ?_
  refine z_if_ne (tgt := 1051) E dL_law_1036 (by decide) (fun cr => ?_) (fun cr => ?_)
  · skip
    refine z_goto (tgt := 1457) E dL_law_1051 (by decide) ?_
    refine z_lv [2, 3, 4, 5, 6] (lv' := [(4, .int (nI i)), (0, .ref b), (1, .ref (ad 106)), (2, .ref (am 0)), (3, .ref o)]) rfl ?_
    exact K _ _ _ _ _ _ _ hR2
  · skip
    have hr0 : r = 0 := cr
    refine z_aload_n E dL_law_1039 rfl 6 rfl ?_
    refine z_iconst (v := 0) E dL_law_1040 (by decide) ?_
    refine z_lald E 111 3 (f := f1) lw_out rfl (zvin rfl) (v := f1 0) rfl dL_law_1041 ?_
    refine z_iload E dL_law_1042 0 rfl ?_
    refine z_i2l (v := b2.toInt64) E dL_law_1044 rfl ?_
    refine z_lcmp E dL_law_1045 ?_
    refine z_if_eq_t (tgt := 1051) E dL_law_1046 (by decide) ((lg_cmp_eq _ _).mpr (h0 hr0)) ?_
    refine z_goto (tgt := 1457) E dL_law_1051 (by decide) ?_
    refine z_lv [2, 3, 4, 5, 6] (lv' := [(4, .int (nI i)), (0, .ref b), (1, .ref (ad 106)), (2, .ref (am 0)), (3, .ref o)]) rfl ?_
    exact K _ _ _ _ _ _ _ hR2
set_option maxHeartbeats 1000000 in
set_option maxRecDepth 100000 in
theorem lc_count (hl : l.stackTraces = false) (E : zE p s m args c D (cK cI cR cS cL) A 9 cL_law RL wsL_law) (hZ : zSK A s s.heap) (hN : zNC s) (hX : va_X b Ls xs s s.heap) (hbl : b < s.heap.size) (hbA : ¬ A b) (hi : i + 5 ≤ Ls) (hLs : Ls ≤ 2560) (hroom : cells + 1 ≤ room_1.cells ∧ slots + 6 ≤ room_1.slots) (hB : B ≤ 1000000) (hR : zR B cm mm q z L) (K : ∀ (c2 m2 : zM) (d2 : Int64) (f2 : Nat → Int64) (q2 z2 L2 : Nat), zR (B + 180) c2 m2 q2 z2 L2 → zW p l e room_1 s m args below meth c D A Q 9 (mw am cI d2 m2 ++ (cw ad cI cR cS c2 ++ [oE cL o f2])) (cells + 1) (slots + 6) 1457 [(4, .int (nI i)), (0, .ref b), (1, .ref (ad 106)), (2, .ref (am 0)), (3, .ref o)] []) : zW p l e room_1 s m args below meth c D A Q 9 (mw am cI dg mm ++ (cw ad cI cR cS cm ++ [oE cL o f])) cells slots 1054 [(4, .int (nI i)), (0, .ref b), (1, .ref (ad 106)), (2, .ref (am 0)), (3, .ref o)] [] := by
  obtain ⟨hok, hS⟩ := zSite_0 hR.1
  have hq := hR.2.1.1
  have hn := hR.2.1.2.2.1
  have hz := hR.2.1.2.1
  have hs := hR.2.1.2.2.2.1
  have hL := hR.2.2.1
  have hlen := hR.2.2.2.1
  refine z_aload_n E dL_law_1054 rfl 2 rfl ?_
  refine z_aload_n E dL_law_1055 rfl 1 rfl ?_
  refine z_iload E dL_law_1056 0 rfl ?_
  refine z_iconst (v := 1) E dL_law_1058 (by decide) ?_
  refine z_iaddV (v := nI (i + 1)) E dL_law_1059 (nI_add i 1) ?_
  obtain ⟨x1, hx1⟩ : ∃ v, xs (nI (i + 1)).toNatClampNeg = v := ⟨_, rfl⟩
  refine z_sld E hX hbl hbA (vp_in_nI (by omega) (by omega)) hx1 dL_law_1060 ?_
  refine z_aload_n E dL_law_1061 rfl 4 rfl ?_
  refine z_callSW E hZ hN ((w_count l D ad cI cR cS cL cm hl o f x1 ).frR (mw am cI dg mm)) gL_law_L_count (n := 3) rfl rfl rfl (by decide +kernel) rfl ⟨(Nat.le_of_ble_eq_true rfl), (Nat.le_of_ble_eq_true rfl)⟩ (As := [.ref (ad 106), .int x1, .ref o]) (rest := []) rfl (Nat.le_of_ble_eq_true rfl) hroom dL_law_1062 (fun r u hp => ?_)
  obtain ⟨c1, f1⟩ := u
  refine z_eq (ws' := mw am cI dg mm ++ (cw ad cI cR cS c1 ++ [oE cL o f1])) (lv' := [(4, .int (nI i)), (0, .ref b), (1, .ref (ad 106)), (2, .ref (am 0)), (3, .ref o)]) (st' := [.int r]) rfl rfl rfl ?_
  refine z_istore (lv' := [(5, .int r), (4, .int (nI i)), (0, .ref b), (1, .ref (ad 106)), (2, .ref (am 0)), (3, .ref o)]) E dL_law_1065 (by decide) rfl ?_
  refine z_aload_n E dL_law_1067 rfl 4 rfl ?_
  refine z_aload_n E dL_law_1068 rfl 2 rfl ?_
  refine z_iload E dL_law_1069 1 rfl ?_
  refine z_iconst (v := 1) E dL_law_1071 (by decide) ?_
  refine z_iaddV (v := nI (i + 1)) E dL_law_1072 (nI_add i 1) ?_
  refine z_sld E hX hbl hbA (vp_in_nI (by omega) (by omega)) hx1 dL_law_1073 ?_
  refine z_callVi E hZ ((k_mcount l D am cI cR cS cL dg mm hR x1).fr [] (cw ad cI cR cS c1 ++ [oE cL o f1])) gL_law_X6_count (n := 1) rfl rfl rfl (by decide +kernel) rfl ⟨(Nat.le_of_ble_eq_true rfl), (Nat.le_of_ble_eq_true rfl)⟩ (C := RX6) rfl 0 lw_mod (As := [.int x1]) (rest := []) rfl (Nat.le_of_ble_eq_true rfl) hroom dL_law_1074 (fun b2 m1 hp2 => ?_)
  refine z_eq (ws' := mw am cI dg m1 ++ (cw ad cI cR cS c1 ++ [oE cL o f1])) (lv' := [(5, .int r), (4, .int (nI i)), (0, .ref b), (1, .ref (ad 106)), (2, .ref (am 0)), (3, .ref o)]) (st' := [.int b2]) rfl rfl rfl ?_
  refine z_istore (lv' := [(6, .int b2), (5, .int r), (4, .int (nI i)), (0, .ref b), (1, .ref (ad 106)), (2, .ref (am 0)), (3, .ref o)]) E dL_law_1077 (by decide) rfl ?_
  refine z_aload_n E dL_law_1079 rfl 5 rfl ?_
  refine z_callVi E hZ ((k_thrown l D am cI cR cS cL dg m1).fr [] (cw ad cI cR cS c1 ++ [oE cL o f1])) gL_law_X6_thrown (n := 0) rfl rfl rfl (by decide +kernel) rfl ⟨(Nat.le_of_ble_eq_true rfl), (Nat.le_of_ble_eq_true rfl)⟩ (C := RX6) rfl 0 lw_mod (As := []) (rest := []) rfl (Nat.le_of_ble_eq_true rfl) hroom dL_law_1080 (fun r3 u3 hp3 => ?_)
  rw [hp3.1, hp3.2]
  refine z_eq (ws' := mw am cI dg m1 ++ (cw ad cI cR cS c1 ++ [oE cL o f1])) (lv' := [(6, .int b2), (5, .int r), (4, .int (nI i)), (0, .ref b), (1, .ref (ad 106)), (2, .ref (am 0)), (3, .ref o)]) (st' := [.int (m1 0 0)]) rfl rfl rfl ?_
  obtain ⟨hk, h0, hP⟩ := pWr_ans cdC_ne hp hp2
  obtain ⟨q2, z2, hR2⟩ := hP
  dsimp only at h0 hR2
  refine z_iload E dL_law_1083 1 rfl ?_
  refine z_icmp_eq_t (tgt := 1090) E dL_law_1085 (by decide) hk ?_
  refine z_iload E dL_law_1090 1 rfl ?_
  refine z_if_ne (tgt := 1107) E dL_law_1092 (by decide) (fun cr => ?_) (fun cr => ?_)
  · skip
    refine z_goto (tgt := 1457) E dL_law_1107 (by decide) ?_
    refine z_lv [2, 3, 4, 5, 6] (lv' := [(4, .int (nI i)), (0, .ref b), (1, .ref (ad 106)), (2, .ref (am 0)), (3, .ref o)]) rfl ?_
    exact K _ _ _ _ _ _ _ hR2
  · skip
    have hr0 : r = 0 := cr
    refine z_aload_n E dL_law_1095 rfl 6 rfl ?_
    refine z_iconst (v := 0) E dL_law_1096 (by decide) ?_
    refine z_lald E 111 3 (f := f1) lw_out rfl (zvin rfl) (v := f1 0) rfl dL_law_1097 ?_
    refine z_iload E dL_law_1098 0 rfl ?_
    refine z_i2l (v := b2.toInt64) E dL_law_1100 rfl ?_
    refine z_lcmp E dL_law_1101 ?_
    refine z_if_eq_t (tgt := 1107) E dL_law_1102 (by decide) ((lg_cmp_eq _ _).mpr (h0 hr0)) ?_
    refine z_goto (tgt := 1457) E dL_law_1107 (by decide) ?_
    refine z_lv [2, 3, 4, 5, 6] (lv' := [(4, .int (nI i)), (0, .ref b), (1, .ref (ad 106)), (2, .ref (am 0)), (3, .ref o)]) rfl ?_
    exact K _ _ _ _ _ _ _ hR2
set_option maxHeartbeats 1000000 in
set_option maxRecDepth 100000 in
theorem lc_highest (hl : l.stackTraces = false) (E : zE p s m args c D (cK cI cR cS cL) A 9 cL_law RL wsL_law) (hZ : zSK A s s.heap) (hN : zNC s) (hX : va_X b Ls xs s s.heap) (hbl : b < s.heap.size) (hbA : ¬ A b) (hi : i + 5 ≤ Ls) (hLs : Ls ≤ 2560) (hroom : cells + 1 ≤ room_1.cells ∧ slots + 6 ≤ room_1.slots) (hB : B ≤ 1000000) (hR : zR B cm mm q z L) (K : ∀ (c2 m2 : zM) (d2 : Int64) (f2 : Nat → Int64) (q2 z2 L2 : Nat), zR (B + 180) c2 m2 q2 z2 L2 → zW p l e room_1 s m args below meth c D A Q 9 (mw am cI d2 m2 ++ (cw ad cI cR cS c2 ++ [oE cL o f2])) (cells + 1) (slots + 6) 1457 [(4, .int (nI i)), (0, .ref b), (1, .ref (ad 106)), (2, .ref (am 0)), (3, .ref o)] []) : zW p l e room_1 s m args below meth c D A Q 9 (mw am cI dg mm ++ (cw ad cI cR cS cm ++ [oE cL o f])) cells slots 1110 [(4, .int (nI i)), (0, .ref b), (1, .ref (ad 106)), (2, .ref (am 0)), (3, .ref o)] [] := by
  obtain ⟨hok, hS⟩ := zSite_0 hR.1
  have hq := hR.2.1.1
  have hn := hR.2.1.2.2.1
  have hz := hR.2.1.2.1
  have hs := hR.2.1.2.2.2.1
  have hL := hR.2.2.1
  have hlen := hR.2.2.2.1
  refine z_aload_n E dL_law_1110 rfl 2 rfl ?_
  refine z_aload_n E dL_law_1111 rfl 1 rfl ?_
  refine z_iload E dL_law_1112 0 rfl ?_
  refine z_iconst (v := 1) E dL_law_1114 (by decide) ?_
  refine z_iaddV (v := nI (i + 1)) E dL_law_1115 (nI_add i 1) ?_
  obtain ⟨x1, hx1⟩ : ∃ v, xs (nI (i + 1)).toNatClampNeg = v := ⟨_, rfl⟩
  refine z_sld E hX hbl hbA (vp_in_nI (by omega) (by omega)) hx1 dL_law_1116 ?_
  refine z_aload_n E dL_law_1117 rfl 1 rfl ?_
  refine z_iload E dL_law_1118 0 rfl ?_
  refine z_iconst (v := 2) E dL_law_1120 (by decide) ?_
  refine z_iaddV (v := nI (i + 2)) E dL_law_1121 (nI_add i 2) ?_
  obtain ⟨x2, hx2⟩ : ∃ v, xs (nI (i + 2)).toNatClampNeg = v := ⟨_, rfl⟩
  refine z_sld E hX hbl hbA (vp_in_nI (by omega) (by omega)) hx2 dL_law_1122 ?_
  refine z_aload_n E dL_law_1123 rfl 4 rfl ?_
  refine z_callSW E hZ hN ((w_highest l D ad cI cR cS cL cm hl o f x1 x2 hok.hA).frR (mw am cI dg mm)) gL_law_L_highest (n := 4) rfl rfl rfl (by decide +kernel) rfl ⟨(Nat.le_of_ble_eq_true rfl), (Nat.le_of_ble_eq_true rfl)⟩ (As := [.ref (ad 106), .int x1, .int x2, .ref o]) (rest := []) rfl (Nat.le_of_ble_eq_true rfl) hroom dL_law_1124 (fun r u hp => ?_)
  obtain ⟨c1, f1⟩ := u
  refine z_eq (ws' := mw am cI dg mm ++ (cw ad cI cR cS c1 ++ [oE cL o f1])) (lv' := [(4, .int (nI i)), (0, .ref b), (1, .ref (ad 106)), (2, .ref (am 0)), (3, .ref o)]) (st' := [.int r]) rfl rfl rfl ?_
  refine z_istore (lv' := [(5, .int r), (4, .int (nI i)), (0, .ref b), (1, .ref (ad 106)), (2, .ref (am 0)), (3, .ref o)]) E dL_law_1127 (by decide) rfl ?_
  refine z_aload_n E dL_law_1129 rfl 4 rfl ?_
  refine z_aload_n E dL_law_1130 rfl 2 rfl ?_
  refine z_iload E dL_law_1131 1 rfl ?_
  refine z_iconst (v := 1) E dL_law_1133 (by decide) ?_
  refine z_iaddV (v := nI (i + 1)) E dL_law_1134 (nI_add i 1) ?_
  refine z_sld E hX hbl hbA (vp_in_nI (by omega) (by omega)) hx1 dL_law_1135 ?_
  refine z_aload_n E dL_law_1136 rfl 2 rfl ?_
  refine z_iload E dL_law_1137 1 rfl ?_
  refine z_iconst (v := 2) E dL_law_1139 (by decide) ?_
  refine z_iaddV (v := nI (i + 2)) E dL_law_1140 (nI_add i 2) ?_
  refine z_sld E hX hbl hbA (vp_in_nI (by omega) (by omega)) hx2 dL_law_1141 ?_
  refine z_callVi E hZ ((k_mhighest l D am cI cR cS cL dg mm hR x1 x2).fr [] (cw ad cI cR cS c1 ++ [oE cL o f1])) gL_law_X6_highest (n := 2) rfl rfl rfl (by decide +kernel) rfl ⟨(Nat.le_of_ble_eq_true rfl), (Nat.le_of_ble_eq_true rfl)⟩ (C := RX6) rfl 0 lw_mod (As := [.int x1, .int x2]) (rest := []) rfl (Nat.le_of_ble_eq_true rfl) hroom dL_law_1142 (fun b2 m1 hp2 => ?_)
  refine z_eq (ws' := mw am cI dg m1 ++ (cw ad cI cR cS c1 ++ [oE cL o f1])) (lv' := [(5, .int r), (4, .int (nI i)), (0, .ref b), (1, .ref (ad 106)), (2, .ref (am 0)), (3, .ref o)]) (st' := [.int b2]) rfl rfl rfl ?_
  refine z_istore (lv' := [(6, .int b2), (5, .int r), (4, .int (nI i)), (0, .ref b), (1, .ref (ad 106)), (2, .ref (am 0)), (3, .ref o)]) E dL_law_1145 (by decide) rfl ?_
  refine z_aload_n E dL_law_1147 rfl 5 rfl ?_
  refine z_callVi E hZ ((k_thrown l D am cI cR cS cL dg m1).fr [] (cw ad cI cR cS c1 ++ [oE cL o f1])) gL_law_X6_thrown (n := 0) rfl rfl rfl (by decide +kernel) rfl ⟨(Nat.le_of_ble_eq_true rfl), (Nat.le_of_ble_eq_true rfl)⟩ (C := RX6) rfl 0 lw_mod (As := []) (rest := []) rfl (Nat.le_of_ble_eq_true rfl) hroom dL_law_1148 (fun r3 u3 hp3 => ?_)
  rw [hp3.1, hp3.2]
  refine z_eq (ws' := mw am cI dg m1 ++ (cw ad cI cR cS c1 ++ [oE cL o f1])) (lv' := [(6, .int b2), (5, .int r), (4, .int (nI i)), (0, .ref b), (1, .ref (ad 106)), (2, .ref (am 0)), (3, .ref o)]) (st' := [.int (m1 0 0)]) rfl rfl rfl ?_
  obtain ⟨hk, h0, htr⟩ := pWrL_ans cdL_ne hp hp2.1
  have hR2 := zR_tr hp2.2 htr
  dsimp only at h0 hR2
  refine z_iload E dL_law_1151 1 rfl ?_
  refine z_icmp_eq_t (tgt := 1158) E dL_law_1153 (by decide) hk ?_
  refine z_iload E dL_law_1158 1 rfl ?_
  refine z_if_ne (tgt := 1175) E dL_law_1160 (by decide) (fun cr => ?_) (fun cr => ?_)
  · skip
    refine z_goto (tgt := 1457) E dL_law_1175 (by decide) ?_
    refine z_lv [2, 3, 4, 5, 6] (lv' := [(4, .int (nI i)), (0, .ref b), (1, .ref (ad 106)), (2, .ref (am 0)), (3, .ref o)]) rfl ?_
    exact K _ _ _ _ _ _ _ hR2
  · skip
    have hr0 : r = 0 := cr
    refine z_aload_n E dL_law_1163 rfl 6 rfl ?_
    refine z_iconst (v := 0) E dL_law_1164 (by decide) ?_
    refine z_lald E 111 3 (f := f1) lw_out rfl (zvin rfl) (v := f1 0) rfl dL_law_1165 ?_
    refine z_iload E dL_law_1166 0 rfl ?_
    refine z_i2l (v := b2.toInt64) E dL_law_1168 rfl ?_
    refine z_lcmp E dL_law_1169 ?_
    refine z_if_eq_t (tgt := 1175) E dL_law_1170 (by decide) ((lg_cmp_eq _ _).mpr (h0 hr0)) ?_
    refine z_goto (tgt := 1457) E dL_law_1175 (by decide) ?_
    refine z_lv [2, 3, 4, 5, 6] (lv' := [(4, .int (nI i)), (0, .ref b), (1, .ref (ad 106)), (2, .ref (am 0)), (3, .ref o)]) rfl ?_
    exact K _ _ _ _ _ _ _ hR2
set_option maxHeartbeats 1000000 in
set_option maxRecDepth 100000 in
theorem lc_neededRope (hl : l.stackTraces = false) (E : zE p s m args c D (cK cI cR cS cL) A 9 cL_law RL wsL_law) (hZ : zSK A s s.heap) (hN : zNC s) (hX : va_X b Ls xs s s.heap) (hbl : b < s.heap.size) (hbA : ¬ A b) (hi : i + 5 ≤ Ls) (hLs : Ls ≤ 2560) (hroom : cells + 1 ≤ room_1.cells ∧ slots + 6 ≤ room_1.slots) (hB : B ≤ 1000000) (hR : zR B cm mm q z L) (K : ∀ (c2 m2 : zM) (d2 : Int64) (f2 : Nat → Int64) (q2 z2 L2 : Nat), zR (B + 180) c2 m2 q2 z2 L2 → zW p l e room_1 s m args below meth c D A Q 9 (mw am cI d2 m2 ++ (cw ad cI cR cS c2 ++ [oE cL o f2])) (cells + 1) (slots + 6) 1457 [(4, .int (nI i)), (0, .ref b), (1, .ref (ad 106)), (2, .ref (am 0)), (3, .ref o)] []) : zW p l e room_1 s m args below meth c D A Q 9 (mw am cI dg mm ++ (cw ad cI cR cS cm ++ [oE cL o f])) cells slots 1178 [(4, .int (nI i)), (0, .ref b), (1, .ref (ad 106)), (2, .ref (am 0)), (3, .ref o)] [] := by
  obtain ⟨hok, hS⟩ := zSite_0 hR.1
  have hq := hR.2.1.1
  have hn := hR.2.1.2.2.1
  have hz := hR.2.1.2.1
  have hs := hR.2.1.2.2.2.1
  have hL := hR.2.2.1
  have hlen := hR.2.2.2.1
  refine z_aload_n E dL_law_1178 rfl 2 rfl ?_
  refine z_aload_n E dL_law_1179 rfl 1 rfl ?_
  refine z_iload E dL_law_1180 0 rfl ?_
  refine z_iconst (v := 1) E dL_law_1182 (by decide) ?_
  refine z_iaddV (v := nI (i + 1)) E dL_law_1183 (nI_add i 1) ?_
  obtain ⟨x1, hx1⟩ : ∃ v, xs (nI (i + 1)).toNatClampNeg = v := ⟨_, rfl⟩
  refine z_sld E hX hbl hbA (vp_in_nI (by omega) (by omega)) hx1 dL_law_1184 ?_
  refine z_aload_n E dL_law_1185 rfl 4 rfl ?_
  refine z_callSW E hZ hN ((w_neededRope l D ad cI cR cS cL cm hl o f x1 ).frR (mw am cI dg mm)) gL_law_L_neededRope (n := 3) rfl rfl rfl (by decide +kernel) rfl ⟨(Nat.le_of_ble_eq_true rfl), (Nat.le_of_ble_eq_true rfl)⟩ (As := [.ref (ad 106), .int x1, .ref o]) (rest := []) rfl (Nat.le_of_ble_eq_true rfl) hroom dL_law_1186 (fun r u hp => ?_)
  obtain ⟨c1, f1⟩ := u
  refine z_eq (ws' := mw am cI dg mm ++ (cw ad cI cR cS c1 ++ [oE cL o f1])) (lv' := [(4, .int (nI i)), (0, .ref b), (1, .ref (ad 106)), (2, .ref (am 0)), (3, .ref o)]) (st' := [.int r]) rfl rfl rfl ?_
  refine z_istore (lv' := [(5, .int r), (4, .int (nI i)), (0, .ref b), (1, .ref (ad 106)), (2, .ref (am 0)), (3, .ref o)]) E dL_law_1189 (by decide) rfl ?_
  refine z_aload_n E dL_law_1191 rfl 4 rfl ?_
  refine z_aload_n E dL_law_1192 rfl 2 rfl ?_
  refine z_iload E dL_law_1193 1 rfl ?_
  refine z_iconst (v := 1) E dL_law_1195 (by decide) ?_
  refine z_iaddV (v := nI (i + 1)) E dL_law_1196 (nI_add i 1) ?_
  refine z_sld E hX hbl hbA (vp_in_nI (by omega) (by omega)) hx1 dL_law_1197 ?_
  refine z_callVi E hZ ((k_mneededRope l D am cI cR cS cL dg mm hR x1).fr [] (cw ad cI cR cS c1 ++ [oE cL o f1])) gL_law_X6_neededRope (n := 1) rfl rfl rfl (by decide +kernel) rfl ⟨(Nat.le_of_ble_eq_true rfl), (Nat.le_of_ble_eq_true rfl)⟩ (C := RX6) rfl 0 lw_mod (As := [.int x1]) (rest := []) rfl (Nat.le_of_ble_eq_true rfl) hroom dL_law_1198 (fun b2 m1 hp2 => ?_)
  refine z_eq (ws' := mw am cI dg m1 ++ (cw ad cI cR cS c1 ++ [oE cL o f1])) (lv' := [(5, .int r), (4, .int (nI i)), (0, .ref b), (1, .ref (ad 106)), (2, .ref (am 0)), (3, .ref o)]) (st' := [.int b2]) rfl rfl rfl ?_
  refine z_istore (lv' := [(6, .int b2), (5, .int r), (4, .int (nI i)), (0, .ref b), (1, .ref (ad 106)), (2, .ref (am 0)), (3, .ref o)]) E dL_law_1201 (by decide) rfl ?_
  refine z_aload_n E dL_law_1203 rfl 5 rfl ?_
  refine z_callVi E hZ ((k_thrown l D am cI cR cS cL dg m1).fr [] (cw ad cI cR cS c1 ++ [oE cL o f1])) gL_law_X6_thrown (n := 0) rfl rfl rfl (by decide +kernel) rfl ⟨(Nat.le_of_ble_eq_true rfl), (Nat.le_of_ble_eq_true rfl)⟩ (C := RX6) rfl 0 lw_mod (As := []) (rest := []) rfl (Nat.le_of_ble_eq_true rfl) hroom dL_law_1204 (fun r3 u3 hp3 => ?_)
  rw [hp3.1, hp3.2]
  refine z_eq (ws' := mw am cI dg m1 ++ (cw ad cI cR cS c1 ++ [oE cL o f1])) (lv' := [(6, .int b2), (5, .int r), (4, .int (nI i)), (0, .ref b), (1, .ref (ad 106)), (2, .ref (am 0)), (3, .ref o)]) (st' := [.int (m1 0 0)]) rfl rfl rfl ?_
  obtain ⟨hk, h0, htr⟩ := pWrL_ans cdL_ne hp hp2.1
  have hR2 := zR_tr hp2.2 htr
  dsimp only at h0 hR2
  refine z_iload E dL_law_1207 1 rfl ?_
  refine z_icmp_eq_t (tgt := 1214) E dL_law_1209 (by decide) hk ?_
  refine z_iload E dL_law_1214 1 rfl ?_
  refine z_if_ne (tgt := 1231) E dL_law_1216 (by decide) (fun cr => ?_) (fun cr => ?_)
  · skip
    refine z_goto (tgt := 1457) E dL_law_1231 (by decide) ?_
    refine z_lv [2, 3, 4, 5, 6] (lv' := [(4, .int (nI i)), (0, .ref b), (1, .ref (ad 106)), (2, .ref (am 0)), (3, .ref o)]) rfl ?_
    exact K _ _ _ _ _ _ _ hR2
  · skip
    have hr0 : r = 0 := cr
    refine z_aload_n E dL_law_1219 rfl 6 rfl ?_
    refine z_iconst (v := 0) E dL_law_1220 (by decide) ?_
    refine z_lald E 111 3 (f := f1) lw_out rfl (zvin rfl) (v := f1 0) rfl dL_law_1221 ?_
    refine z_iload E dL_law_1222 0 rfl ?_
    refine z_i2l (v := b2.toInt64) E dL_law_1224 rfl ?_
    refine z_lcmp E dL_law_1225 ?_
    refine z_if_eq_t (tgt := 1231) E dL_law_1226 (by decide) ((lg_cmp_eq _ _).mpr (h0 hr0)) ?_
    refine z_goto (tgt := 1457) E dL_law_1231 (by decide) ?_
    refine z_lv [2, 3, 4, 5, 6] (lv' := [(4, .int (nI i)), (0, .ref b), (1, .ref (ad 106)), (2, .ref (am 0)), (3, .ref o)]) rfl ?_
    exact K _ _ _ _ _ _ _ hR2
set_option maxHeartbeats 1000000 in
set_option maxRecDepth 100000 in
theorem lc_bestBase (hl : l.stackTraces = false) (E : zE p s m args c D (cK cI cR cS cL) A 9 cL_law RL wsL_law) (hZ : zSK A s s.heap) (hN : zNC s) (hX : va_X b Ls xs s s.heap) (hbl : b < s.heap.size) (hbA : ¬ A b) (hi : i + 5 ≤ Ls) (hLs : Ls ≤ 2560) (hroom : cells + 1 ≤ room_1.cells ∧ slots + 6 ≤ room_1.slots) (hB : B ≤ 1000000) (hR : zR B cm mm q z L) (K : ∀ (c2 m2 : zM) (d2 : Int64) (f2 : Nat → Int64) (q2 z2 L2 : Nat), zR (B + 180) c2 m2 q2 z2 L2 → zW p l e room_1 s m args below meth c D A Q 9 (mw am cI d2 m2 ++ (cw ad cI cR cS c2 ++ [oE cL o f2])) (cells + 1) (slots + 6) 1457 [(4, .int (nI i)), (0, .ref b), (1, .ref (ad 106)), (2, .ref (am 0)), (3, .ref o)] []) : zW p l e room_1 s m args below meth c D A Q 9 (mw am cI dg mm ++ (cw ad cI cR cS cm ++ [oE cL o f])) cells slots 1234 [(4, .int (nI i)), (0, .ref b), (1, .ref (ad 106)), (2, .ref (am 0)), (3, .ref o)] [] := by
  obtain ⟨hok, hS⟩ := zSite_0 hR.1
  have hq := hR.2.1.1
  have hn := hR.2.1.2.2.1
  have hz := hR.2.1.2.1
  have hs := hR.2.1.2.2.2.1
  have hL := hR.2.2.1
  have hlen := hR.2.2.2.1
  refine z_aload_n E dL_law_1234 rfl 2 rfl ?_
  refine z_aload_n E dL_law_1235 rfl 1 rfl ?_
  refine z_iload E dL_law_1236 0 rfl ?_
  refine z_iconst (v := 1) E dL_law_1238 (by decide) ?_
  refine z_iaddV (v := nI (i + 1)) E dL_law_1239 (nI_add i 1) ?_
  obtain ⟨x1, hx1⟩ : ∃ v, xs (nI (i + 1)).toNatClampNeg = v := ⟨_, rfl⟩
  refine z_sld E hX hbl hbA (vp_in_nI (by omega) (by omega)) hx1 dL_law_1240 ?_
  refine z_aload_n E dL_law_1241 rfl 4 rfl ?_
  refine z_callSW E hZ hN ((w_bestBase l D ad cI cR cS cL cm hl o f x1 ).frR (mw am cI dg mm)) gL_law_L_bestBase (n := 3) rfl rfl rfl (by decide +kernel) rfl ⟨(Nat.le_of_ble_eq_true rfl), (Nat.le_of_ble_eq_true rfl)⟩ (As := [.ref (ad 106), .int x1, .ref o]) (rest := []) rfl (Nat.le_of_ble_eq_true rfl) hroom dL_law_1242 (fun r u hp => ?_)
  obtain ⟨c1, f1⟩ := u
  refine z_eq (ws' := mw am cI dg mm ++ (cw ad cI cR cS c1 ++ [oE cL o f1])) (lv' := [(4, .int (nI i)), (0, .ref b), (1, .ref (ad 106)), (2, .ref (am 0)), (3, .ref o)]) (st' := [.int r]) rfl rfl rfl ?_
  refine z_istore (lv' := [(5, .int r), (4, .int (nI i)), (0, .ref b), (1, .ref (ad 106)), (2, .ref (am 0)), (3, .ref o)]) E dL_law_1245 (by decide) rfl ?_
  refine z_aload_n E dL_law_1247 rfl 4 rfl ?_
  refine z_aload_n E dL_law_1248 rfl 2 rfl ?_
  refine z_iload E dL_law_1249 1 rfl ?_
  refine z_iconst (v := 1) E dL_law_1251 (by decide) ?_
  refine z_iaddV (v := nI (i + 1)) E dL_law_1252 (nI_add i 1) ?_
  refine z_sld E hX hbl hbA (vp_in_nI (by omega) (by omega)) hx1 dL_law_1253 ?_
  refine z_callVi E hZ ((k_mbestBase l D am cI cR cS cL dg mm hR x1).fr [] (cw ad cI cR cS c1 ++ [oE cL o f1])) gL_law_X6_bestBase (n := 1) rfl rfl rfl (by decide +kernel) rfl ⟨(Nat.le_of_ble_eq_true rfl), (Nat.le_of_ble_eq_true rfl)⟩ (C := RX6) rfl 0 lw_mod (As := [.int x1]) (rest := []) rfl (Nat.le_of_ble_eq_true rfl) hroom dL_law_1254 (fun b2 m1 hp2 => ?_)
  refine z_eq (ws' := mw am cI dg m1 ++ (cw ad cI cR cS c1 ++ [oE cL o f1])) (lv' := [(5, .int r), (4, .int (nI i)), (0, .ref b), (1, .ref (ad 106)), (2, .ref (am 0)), (3, .ref o)]) (st' := [.int b2]) rfl rfl rfl ?_
  refine z_istore (lv' := [(6, .int b2), (5, .int r), (4, .int (nI i)), (0, .ref b), (1, .ref (ad 106)), (2, .ref (am 0)), (3, .ref o)]) E dL_law_1257 (by decide) rfl ?_
  refine z_aload_n E dL_law_1259 rfl 5 rfl ?_
  refine z_callVi E hZ ((k_thrown l D am cI cR cS cL dg m1).fr [] (cw ad cI cR cS c1 ++ [oE cL o f1])) gL_law_X6_thrown (n := 0) rfl rfl rfl (by decide +kernel) rfl ⟨(Nat.le_of_ble_eq_true rfl), (Nat.le_of_ble_eq_true rfl)⟩ (C := RX6) rfl 0 lw_mod (As := []) (rest := []) rfl (Nat.le_of_ble_eq_true rfl) hroom dL_law_1260 (fun r3 u3 hp3 => ?_)
  rw [hp3.1, hp3.2]
  refine z_eq (ws' := mw am cI dg m1 ++ (cw ad cI cR cS c1 ++ [oE cL o f1])) (lv' := [(6, .int b2), (5, .int r), (4, .int (nI i)), (0, .ref b), (1, .ref (ad 106)), (2, .ref (am 0)), (3, .ref o)]) (st' := [.int (m1 0 0)]) rfl rfl rfl ?_
  obtain ⟨hk, h0, htr⟩ := pWrL_ans cdL_ne hp hp2.1
  have hR2 := zR_tr hp2.2 htr
  dsimp only at h0 hR2
  refine z_iload E dL_law_1263 1 rfl ?_
  refine z_icmp_eq_t (tgt := 1270) E dL_law_1265 (by decide) hk ?_
  refine z_iload E dL_law_1270 1 rfl ?_
  refine z_if_ne (tgt := 1287) E dL_law_1272 (by decide) (fun cr => ?_) (fun cr => ?_)
  · skip
    refine z_goto (tgt := 1457) E dL_law_1287 (by decide) ?_
    refine z_lv [2, 3, 4, 5, 6] (lv' := [(4, .int (nI i)), (0, .ref b), (1, .ref (ad 106)), (2, .ref (am 0)), (3, .ref o)]) rfl ?_
    exact K _ _ _ _ _ _ _ hR2
  · skip
    have hr0 : r = 0 := cr
    refine z_aload_n E dL_law_1275 rfl 6 rfl ?_
    refine z_iconst (v := 0) E dL_law_1276 (by decide) ?_
    refine z_lald E 111 3 (f := f1) lw_out rfl (zvin rfl) (v := f1 0) rfl dL_law_1277 ?_
    refine z_iload E dL_law_1278 0 rfl ?_
    refine z_i2l (v := b2.toInt64) E dL_law_1280 rfl ?_
    refine z_lcmp E dL_law_1281 ?_
    refine z_if_eq_t (tgt := 1287) E dL_law_1282 (by decide) ((lg_cmp_eq _ _).mpr (h0 hr0)) ?_
    refine z_goto (tgt := 1457) E dL_law_1287 (by decide) ?_
    refine z_lv [2, 3, 4, 5, 6] (lv' := [(4, .int (nI i)), (0, .ref b), (1, .ref (ad 106)), (2, .ref (am 0)), (3, .ref o)]) rfl ?_
    exact K _ _ _ _ _ _ _ hR2
set_option maxHeartbeats 1000000 in
set_option maxRecDepth 100000 in
theorem lc_riskiest (hl : l.stackTraces = false) (E : zE p s m args c D (cK cI cR cS cL) A 9 cL_law RL wsL_law) (hZ : zSK A s s.heap) (hN : zNC s) (hX : va_X b Ls xs s s.heap) (hbl : b < s.heap.size) (hbA : ¬ A b) (hi : i + 5 ≤ Ls) (hLs : Ls ≤ 2560) (hroom : cells + 1 ≤ room_1.cells ∧ slots + 6 ≤ room_1.slots) (hB : B ≤ 1000000) (hR : zR B cm mm q z L) (K : ∀ (c2 m2 : zM) (d2 : Int64) (f2 : Nat → Int64) (q2 z2 L2 : Nat), zR (B + 180) c2 m2 q2 z2 L2 → zW p l e room_1 s m args below meth c D A Q 9 (mw am cI d2 m2 ++ (cw ad cI cR cS c2 ++ [oE cL o f2])) (cells + 1) (slots + 6) 1457 [(4, .int (nI i)), (0, .ref b), (1, .ref (ad 106)), (2, .ref (am 0)), (3, .ref o)] []) : zW p l e room_1 s m args below meth c D A Q 9 (mw am cI dg mm ++ (cw ad cI cR cS cm ++ [oE cL o f])) cells slots 1290 [(4, .int (nI i)), (0, .ref b), (1, .ref (ad 106)), (2, .ref (am 0)), (3, .ref o)] [] := by
  obtain ⟨hok, hS⟩ := zSite_0 hR.1
  have hq := hR.2.1.1
  have hn := hR.2.1.2.2.1
  have hz := hR.2.1.2.1
  have hs := hR.2.1.2.2.2.1
  have hL := hR.2.2.1
  have hlen := hR.2.2.2.1
  refine z_aload_n E dL_law_1290 rfl 2 rfl ?_
  refine z_aload_n E dL_law_1291 rfl 1 rfl ?_
  refine z_iload E dL_law_1292 0 rfl ?_
  refine z_iconst (v := 1) E dL_law_1294 (by decide) ?_
  refine z_iaddV (v := nI (i + 1)) E dL_law_1295 (nI_add i 1) ?_
  obtain ⟨x1, hx1⟩ : ∃ v, xs (nI (i + 1)).toNatClampNeg = v := ⟨_, rfl⟩
  refine z_sld E hX hbl hbA (vp_in_nI (by omega) (by omega)) hx1 dL_law_1296 ?_
  refine z_aload_n E dL_law_1297 rfl 4 rfl ?_
  refine z_callSW E hZ hN ((w_riskiest l D ad cI cR cS cL cm hl o f x1 hok.h3).frR (mw am cI dg mm)) gL_law_L_riskiest (n := 3) rfl rfl rfl (by decide +kernel) rfl ⟨(Nat.le_of_ble_eq_true rfl), (Nat.le_of_ble_eq_true rfl)⟩ (As := [.ref (ad 106), .int x1, .ref o]) (rest := []) rfl (Nat.le_of_ble_eq_true rfl) hroom dL_law_1298 (fun r u hp => ?_)
  obtain ⟨c1, f1⟩ := u
  refine z_eq (ws' := mw am cI dg mm ++ (cw ad cI cR cS c1 ++ [oE cL o f1])) (lv' := [(4, .int (nI i)), (0, .ref b), (1, .ref (ad 106)), (2, .ref (am 0)), (3, .ref o)]) (st' := [.int r]) rfl rfl rfl ?_
  refine z_istore (lv' := [(5, .int r), (4, .int (nI i)), (0, .ref b), (1, .ref (ad 106)), (2, .ref (am 0)), (3, .ref o)]) E dL_law_1301 (by decide) rfl ?_
  refine z_aload_n E dL_law_1303 rfl 4 rfl ?_
  refine z_aload_n E dL_law_1304 rfl 2 rfl ?_
  refine z_iload E dL_law_1305 1 rfl ?_
  refine z_iconst (v := 1) E dL_law_1307 (by decide) ?_
  refine z_iaddV (v := nI (i + 1)) E dL_law_1308 (nI_add i 1) ?_
  refine z_sld E hX hbl hbA (vp_in_nI (by omega) (by omega)) hx1 dL_law_1309 ?_
  refine z_callVi E hZ ((k_mriskiest l D am cI cR cS cL dg mm hR x1).fr [] (cw ad cI cR cS c1 ++ [oE cL o f1])) gL_law_X6_riskiest (n := 1) rfl rfl rfl (by decide +kernel) rfl ⟨(Nat.le_of_ble_eq_true rfl), (Nat.le_of_ble_eq_true rfl)⟩ (C := RX6) rfl 0 lw_mod (As := [.int x1]) (rest := []) rfl (Nat.le_of_ble_eq_true rfl) hroom dL_law_1310 (fun b2 m1 hp2 => ?_)
  refine z_eq (ws' := mw am cI dg m1 ++ (cw ad cI cR cS c1 ++ [oE cL o f1])) (lv' := [(5, .int r), (4, .int (nI i)), (0, .ref b), (1, .ref (ad 106)), (2, .ref (am 0)), (3, .ref o)]) (st' := [.int b2]) rfl rfl rfl ?_
  refine z_istore (lv' := [(6, .int b2), (5, .int r), (4, .int (nI i)), (0, .ref b), (1, .ref (ad 106)), (2, .ref (am 0)), (3, .ref o)]) E dL_law_1313 (by decide) rfl ?_
  refine z_aload_n E dL_law_1315 rfl 5 rfl ?_
  refine z_callVi E hZ ((k_thrown l D am cI cR cS cL dg m1).fr [] (cw ad cI cR cS c1 ++ [oE cL o f1])) gL_law_X6_thrown (n := 0) rfl rfl rfl (by decide +kernel) rfl ⟨(Nat.le_of_ble_eq_true rfl), (Nat.le_of_ble_eq_true rfl)⟩ (C := RX6) rfl 0 lw_mod (As := []) (rest := []) rfl (Nat.le_of_ble_eq_true rfl) hroom dL_law_1316 (fun r3 u3 hp3 => ?_)
  rw [hp3.1, hp3.2]
  refine z_eq (ws' := mw am cI dg m1 ++ (cw ad cI cR cS c1 ++ [oE cL o f1])) (lv' := [(6, .int b2), (5, .int r), (4, .int (nI i)), (0, .ref b), (1, .ref (ad 106)), (2, .ref (am 0)), (3, .ref o)]) (st' := [.int (m1 0 0)]) rfl rfl rfl ?_
  obtain ⟨hk, h0, htr⟩ := pWrL_ans cdL_ne hp hp2.1
  have hR2 := zR_tr hp2.2 htr
  dsimp only at h0 hR2
  refine z_iload E dL_law_1319 1 rfl ?_
  refine z_icmp_eq_t (tgt := 1326) E dL_law_1321 (by decide) hk ?_
  refine z_iload E dL_law_1326 1 rfl ?_
  refine z_if_ne (tgt := 1343) E dL_law_1328 (by decide) (fun cr => ?_) (fun cr => ?_)
  · skip
    refine z_goto (tgt := 1457) E dL_law_1343 (by decide) ?_
    refine z_lv [2, 3, 4, 5, 6] (lv' := [(4, .int (nI i)), (0, .ref b), (1, .ref (ad 106)), (2, .ref (am 0)), (3, .ref o)]) rfl ?_
    exact K _ _ _ _ _ _ _ hR2
  · skip
    have hr0 : r = 0 := cr
    refine z_aload_n E dL_law_1331 rfl 6 rfl ?_
    refine z_iconst (v := 0) E dL_law_1332 (by decide) ?_
    refine z_lald E 111 3 (f := f1) lw_out rfl (zvin rfl) (v := f1 0) rfl dL_law_1333 ?_
    refine z_iload E dL_law_1334 0 rfl ?_
    refine z_i2l (v := b2.toInt64) E dL_law_1336 rfl ?_
    refine z_lcmp E dL_law_1337 ?_
    refine z_if_eq_t (tgt := 1343) E dL_law_1338 (by decide) ((lg_cmp_eq _ _).mpr (h0 hr0)) ?_
    refine z_goto (tgt := 1457) E dL_law_1343 (by decide) ?_
    refine z_lv [2, 3, 4, 5, 6] (lv' := [(4, .int (nI i)), (0, .ref b), (1, .ref (ad 106)), (2, .ref (am 0)), (3, .ref o)]) rfl ?_
    exact K _ _ _ _ _ _ _ hR2
set_option maxHeartbeats 1000000 in
set_option maxRecDepth 100000 in
theorem lc_walls (hl : l.stackTraces = false) (E : zE p s m args c D (cK cI cR cS cL) A 9 cL_law RL wsL_law) (hZ : zSK A s s.heap) (hN : zNC s) (hX : va_X b Ls xs s s.heap) (hbl : b < s.heap.size) (hbA : ¬ A b) (hi : i + 5 ≤ Ls) (hLs : Ls ≤ 2560) (hroom : cells + 1 ≤ room_1.cells ∧ slots + 6 ≤ room_1.slots) (hB : B ≤ 1000000) (hR : zR B cm mm q z L) (K : ∀ (c2 m2 : zM) (d2 : Int64) (f2 : Nat → Int64) (q2 z2 L2 : Nat), zR (B + 180) c2 m2 q2 z2 L2 → zW p l e room_1 s m args below meth c D A Q 9 (mw am cI d2 m2 ++ (cw ad cI cR cS c2 ++ [oE cL o f2])) (cells + 1) (slots + 6) 1457 [(4, .int (nI i)), (0, .ref b), (1, .ref (ad 106)), (2, .ref (am 0)), (3, .ref o)] []) : zW p l e room_1 s m args below meth c D A Q 9 (mw am cI dg mm ++ (cw ad cI cR cS cm ++ [oE cL o f])) cells slots 1346 [(4, .int (nI i)), (0, .ref b), (1, .ref (ad 106)), (2, .ref (am 0)), (3, .ref o)] [] := by
  obtain ⟨hok, hS⟩ := zSite_0 hR.1
  have hq := hR.2.1.1
  have hn := hR.2.1.2.2.1
  have hz := hR.2.1.2.1
  have hs := hR.2.1.2.2.2.1
  have hL := hR.2.2.1
  have hlen := hR.2.2.2.1
  refine z_aload_n E dL_law_1346 rfl 2 rfl ?_
  refine z_aload_n E dL_law_1347 rfl 1 rfl ?_
  refine z_iload E dL_law_1348 0 rfl ?_
  refine z_iconst (v := 1) E dL_law_1350 (by decide) ?_
  refine z_iaddV (v := nI (i + 1)) E dL_law_1351 (nI_add i 1) ?_
  obtain ⟨x1, hx1⟩ : ∃ v, xs (nI (i + 1)).toNatClampNeg = v := ⟨_, rfl⟩
  refine z_sld E hX hbl hbA (vp_in_nI (by omega) (by omega)) hx1 dL_law_1352 ?_
  refine z_aload_n E dL_law_1353 rfl 4 rfl ?_
  refine z_callSW E hZ hN ((w_walls l D ad cI cR cS cL cm hl o f x1 ).frR (mw am cI dg mm)) gL_law_L_walls (n := 3) rfl rfl rfl (by decide +kernel) rfl ⟨(Nat.le_of_ble_eq_true rfl), (Nat.le_of_ble_eq_true rfl)⟩ (As := [.ref (ad 106), .int x1, .ref o]) (rest := []) rfl (Nat.le_of_ble_eq_true rfl) hroom dL_law_1354 (fun r u hp => ?_)
  obtain ⟨c1, f1⟩ := u
  refine z_eq (ws' := mw am cI dg mm ++ (cw ad cI cR cS c1 ++ [oE cL o f1])) (lv' := [(4, .int (nI i)), (0, .ref b), (1, .ref (ad 106)), (2, .ref (am 0)), (3, .ref o)]) (st' := [.int r]) rfl rfl rfl ?_
  refine z_istore (lv' := [(5, .int r), (4, .int (nI i)), (0, .ref b), (1, .ref (ad 106)), (2, .ref (am 0)), (3, .ref o)]) E dL_law_1357 (by decide) rfl ?_
  refine z_aload_n E dL_law_1359 rfl 4 rfl ?_
  refine z_aload_n E dL_law_1360 rfl 2 rfl ?_
  refine z_iload E dL_law_1361 1 rfl ?_
  refine z_iconst (v := 1) E dL_law_1363 (by decide) ?_
  refine z_iaddV (v := nI (i + 1)) E dL_law_1364 (nI_add i 1) ?_
  refine z_sld E hX hbl hbA (vp_in_nI (by omega) (by omega)) hx1 dL_law_1365 ?_
  refine z_callVi E hZ ((k_mwalls l D am cI cR cS cL dg mm hR x1).fr [] (cw ad cI cR cS c1 ++ [oE cL o f1])) gL_law_X6_walls (n := 1) rfl rfl rfl (by decide +kernel) rfl ⟨(Nat.le_of_ble_eq_true rfl), (Nat.le_of_ble_eq_true rfl)⟩ (C := RX6) rfl 0 lw_mod (As := [.int x1]) (rest := []) rfl (Nat.le_of_ble_eq_true rfl) hroom dL_law_1366 (fun b2 m1 hp2 => ?_)
  refine z_eq (ws' := mw am cI dg m1 ++ (cw ad cI cR cS c1 ++ [oE cL o f1])) (lv' := [(5, .int r), (4, .int (nI i)), (0, .ref b), (1, .ref (ad 106)), (2, .ref (am 0)), (3, .ref o)]) (st' := [.int b2]) rfl rfl rfl ?_
  refine z_istore (lv' := [(6, .int b2), (5, .int r), (4, .int (nI i)), (0, .ref b), (1, .ref (ad 106)), (2, .ref (am 0)), (3, .ref o)]) E dL_law_1369 (by decide) rfl ?_
  refine z_aload_n E dL_law_1371 rfl 5 rfl ?_
  refine z_callVi E hZ ((k_thrown l D am cI cR cS cL dg m1).fr [] (cw ad cI cR cS c1 ++ [oE cL o f1])) gL_law_X6_thrown (n := 0) rfl rfl rfl (by decide +kernel) rfl ⟨(Nat.le_of_ble_eq_true rfl), (Nat.le_of_ble_eq_true rfl)⟩ (C := RX6) rfl 0 lw_mod (As := []) (rest := []) rfl (Nat.le_of_ble_eq_true rfl) hroom dL_law_1372 (fun r3 u3 hp3 => ?_)
  rw [hp3.1, hp3.2]
  refine z_eq (ws' := mw am cI dg m1 ++ (cw ad cI cR cS c1 ++ [oE cL o f1])) (lv' := [(6, .int b2), (5, .int r), (4, .int (nI i)), (0, .ref b), (1, .ref (ad 106)), (2, .ref (am 0)), (3, .ref o)]) (st' := [.int (m1 0 0)]) rfl rfl rfl ?_
  obtain ⟨hk, h0, htr⟩ := pWrL_ans cdL_ne hp hp2.1
  have hR2 := zR_tr hp2.2 htr
  dsimp only at h0 hR2
  refine z_iload E dL_law_1375 1 rfl ?_
  refine z_icmp_eq_t (tgt := 1382) E dL_law_1377 (by decide) hk ?_
  refine z_iload E dL_law_1382 1 rfl ?_
  refine z_if_ne (tgt := 1399) E dL_law_1384 (by decide) (fun cr => ?_) (fun cr => ?_)
  · skip
    refine z_goto (tgt := 1457) E dL_law_1399 (by decide) ?_
    refine z_lv [2, 3, 4, 5, 6] (lv' := [(4, .int (nI i)), (0, .ref b), (1, .ref (ad 106)), (2, .ref (am 0)), (3, .ref o)]) rfl ?_
    exact K _ _ _ _ _ _ _ hR2
  · skip
    have hr0 : r = 0 := cr
    refine z_aload_n E dL_law_1387 rfl 6 rfl ?_
    refine z_iconst (v := 0) E dL_law_1388 (by decide) ?_
    refine z_lald E 111 3 (f := f1) lw_out rfl (zvin rfl) (v := f1 0) rfl dL_law_1389 ?_
    refine z_iload E dL_law_1390 0 rfl ?_
    refine z_i2l (v := b2.toInt64) E dL_law_1392 rfl ?_
    refine z_lcmp E dL_law_1393 ?_
    refine z_if_eq_t (tgt := 1399) E dL_law_1394 (by decide) ((lg_cmp_eq _ _).mpr (h0 hr0)) ?_
    refine z_goto (tgt := 1457) E dL_law_1399 (by decide) ?_
    refine z_lv [2, 3, 4, 5, 6] (lv' := [(4, .int (nI i)), (0, .ref b), (1, .ref (ad 106)), (2, .ref (am 0)), (3, .ref o)]) rfl ?_
    exact K _ _ _ _ _ _ _ hR2
set_option maxHeartbeats 1000000 in
set_option maxRecDepth 100000 in
theorem lc_safety (hl : l.stackTraces = false) (E : zE p s m args c D (cK cI cR cS cL) A 9 cL_law RL wsL_law) (hZ : zSK A s s.heap) (hN : zNC s) (hX : va_X b Ls xs s s.heap) (hbl : b < s.heap.size) (hbA : ¬ A b) (hi : i + 5 ≤ Ls) (hLs : Ls ≤ 2560) (hroom : cells + 1 ≤ room_1.cells ∧ slots + 6 ≤ room_1.slots) (hB : B ≤ 1000000) (hR : zR B cm mm q z L) (K : ∀ (c2 m2 : zM) (d2 : Int64) (f2 : Nat → Int64) (q2 z2 L2 : Nat), zR (B + 180) c2 m2 q2 z2 L2 → zW p l e room_1 s m args below meth c D A Q 9 (mw am cI d2 m2 ++ (cw ad cI cR cS c2 ++ [oE cL o f2])) (cells + 1) (slots + 6) 1457 [(4, .int (nI i)), (0, .ref b), (1, .ref (ad 106)), (2, .ref (am 0)), (3, .ref o)] []) : zW p l e room_1 s m args below meth c D A Q 9 (mw am cI dg mm ++ (cw ad cI cR cS cm ++ [oE cL o f])) cells slots 1402 [(4, .int (nI i)), (0, .ref b), (1, .ref (ad 106)), (2, .ref (am 0)), (3, .ref o)] [] := by
  obtain ⟨hok, hS⟩ := zSite_0 hR.1
  have hL := hR.2.2.1
  have hlen := hR.2.2.2.1
  have hr1 : cells + 0 ≤ room_1.cells ∧ slots + 0 ≤ room_1.slots := ⟨by omega, by omega⟩
  obtain ⟨hnn, hsh⟩ := zR_share hR hB
  refine z_aload_n E dL_law_1402 rfl 2 rfl ?_
  refine z_callVd E hZ ((k_safety l D ad cI cR cS cL cm hnn).fr (mw am cI dg mm) [oE cL o f]) gL_law_X5_safety (n := 0) rfl rfl rfl (by decide +kernel) rfl ⟨(Nat.le_of_ble_eq_true rfl), (Nat.le_of_ble_eq_true rfl)⟩ (C := RX5) rfl 110 lw_lad (As := []) (rest := []) rfl (Nat.le_of_ble_eq_true rfl) hr1 dL_law_1403 (fun r c1 hp => ?_)
  refine z_eq (ws' := mw am cI dg mm ++ (cw ad cI cR cS c1 ++ [oE cL o f])) (lv' := [(4, .int (nI i)), (0, .ref b), (1, .ref (ad 106)), (2, .ref (am 0)), (3, .ref o)]) (st' := [.double r]) rfl rfl rfl ?_
  refine z_dstore (lv' := [(5, .double r), (4, .int (nI i)), (0, .ref b), (1, .ref (ad 106)), (2, .ref (am 0)), (3, .ref o)]) E dL_law_1406 (by decide) rfl ?_
  refine z_aload_n E dL_law_1408 rfl 4 rfl ?_
  refine z_callVd E hZ ((k_msafety l D am cI cR cS cL dg mm hok hS hnn).fr [] (cw ad cI cR cS c1 ++ [oE cL o f])) gL_law_X6_safety (n := 0) rfl rfl rfl (by decide +kernel) rfl ⟨(Nat.le_of_ble_eq_true rfl), (Nat.le_of_ble_eq_true rfl)⟩ (C := RX6) rfl 0 lw_mod (As := []) (rest := []) rfl (Nat.le_of_ble_eq_true rfl) hr1 dL_law_1409 (fun r2 m1 hp2 => ?_)
  refine z_eq (ws' := mw am cI dg m1 ++ (cw ad cI cR cS c1 ++ [oE cL o f])) (lv' := [(5, .double r), (4, .int (nI i)), (0, .ref b), (1, .ref (ad 106)), (2, .ref (am 0)), (3, .ref o)]) (st' := [.double r2]) rfl rfl rfl ?_
  have hR2 : zR (B + 180) c1 m1 q z L := by rw [hp.2]; exact zR_mono (by omega) (zR_scr (zR_fld hR (mset_ne _ _ _ (by decide)) (mset_ne _ _ _ (by decide)) (mset_ne _ _ _ (by decide)) (mset_ne2 _ _ (by decide)) (mset_ne2 _ _ (by decide))) hp2.2)
  have hk : r2 = r := hp2.1.trans hp.1.symm
  subst hk
  refine z_dstore (lv' := [(7, .double r2), (5, .double r2), (4, .int (nI i)), (0, .ref b), (1, .ref (ad 106)), (2, .ref (am 0)), (3, .ref o)]) E dL_law_1412 (by decide) rfl ?_
  refine z_dload E dL_law_1414 1 rfl ?_
  refine z_dload E dL_law_1416 0 rfl ?_
  refine z_dcmp E dL_law_1418 ?_
  by_cases hcp : Op.cmpValue (FP.dcmp r2 r2) .l = 0
  · skip
    refine z_if_eq_t (tgt := 1440) E dL_law_1419 (by decide) hcp ?_
    refine z_goto (tgt := 1457) E dL_law_1440 (by decide) ?_
    refine z_lv [2, 3, 4, 5, 6] (lv' := [(4, .int (nI i)), (0, .ref b), (1, .ref (ad 106)), (2, .ref (am 0)), (3, .ref o)]) rfl ?_
    refine z_widen (k := cells + 1) (n := slots + 6) (by omega) (by omega) ?_
    exact K _ _ _ _ _ _ _ hR2
  · skip
    refine z_if_eq_f (tgt := 1440) E dL_law_1419 (by decide) hcp ?_
    refine z_dload E dL_law_1422 1 rfl ?_
    refine z_dload E dL_law_1424 1 rfl ?_
    refine z_dcmp E dL_law_1426 ?_
    refine z_if_eq_f (tgt := 1438) E dL_law_1427 (by decide) hcp ?_
    refine z_dload E dL_law_1430 0 rfl ?_
    refine z_dload E dL_law_1432 0 rfl ?_
    refine z_dcmp E dL_law_1434 ?_
    refine z_if_ne_t (tgt := 1440) E dL_law_1435 (by decide) hcp ?_
    refine z_goto (tgt := 1457) E dL_law_1440 (by decide) ?_
    refine z_lv [2, 3, 4, 5, 6] (lv' := [(4, .int (nI i)), (0, .ref b), (1, .ref (ad 106)), (2, .ref (am 0)), (3, .ref o)]) rfl ?_
    refine z_widen (k := cells + 1) (n := slots + 6) (by omega) (by omega) ?_
    exact K _ _ _ _ _ _ _ hR2
set_option maxHeartbeats 1000000 in
set_option maxRecDepth 100000 in
theorem lc_digest (hl : l.stackTraces = false) (E : zE p s m args c D (cK cI cR cS cL) A 9 cL_law RL wsL_law) (hZ : zSK A s s.heap) (hN : zNC s) (hX : va_X b Ls xs s s.heap) (hbl : b < s.heap.size) (hbA : ¬ A b) (hi : i + 5 ≤ Ls) (hLs : Ls ≤ 2560) (hroom : cells + 1 ≤ room_1.cells ∧ slots + 6 ≤ room_1.slots) (hB : B ≤ 1000000) (hR : zR B cm mm q z L) (K : ∀ (c2 m2 : zM) (d2 : Int64) (f2 : Nat → Int64) (q2 z2 L2 : Nat), zR (B + 180) c2 m2 q2 z2 L2 → zW p l e room_1 s m args below meth c D A Q 9 (mw am cI d2 m2 ++ (cw ad cI cR cS c2 ++ [oE cL o f2])) (cells + 1) (slots + 6) 1457 [(4, .int (nI i)), (0, .ref b), (1, .ref (ad 106)), (2, .ref (am 0)), (3, .ref o)] []) : zW p l e room_1 s m args below meth c D A Q 9 (mw am cI dg mm ++ (cw ad cI cR cS cm ++ [oE cL o f])) cells slots 1443 [(4, .int (nI i)), (0, .ref b), (1, .ref (ad 106)), (2, .ref (am 0)), (3, .ref o)] [] := by
  obtain ⟨hok, hS⟩ := zSite_0 hR.1
  have hL := hR.2.2.1
  have hlen := hR.2.2.2.1
  have hr1 : cells + 0 ≤ room_1.cells ∧ slots + 0 ≤ room_1.slots := ⟨by omega, by omega⟩
  obtain ⟨hnn, hsh⟩ := zR_share hR hB
  refine z_aload_n E dL_law_1443 rfl 2 rfl ?_
  refine z_callVl E hZ ((k_digest l D ad cI cR cS cL cm hl (pp := fun i => (cm (3 * i) 7).toNatClampNeg) (fun i hi => (zOK_pp hok i hi).1) (fun i hi => (zOK_pp hok i hi).2.1) hok.h3 hok.hA hnn hsh hL hlen).fr (mw am cI dg mm) [oE cL o f]) gL_law_X5_digest (n := 0) rfl rfl rfl (by decide +kernel) rfl ⟨(Nat.le_of_ble_eq_true rfl), (Nat.le_of_ble_eq_true rfl)⟩ (C := RX5) rfl 110 lw_lad (As := []) (rest := []) rfl (Nat.le_of_ble_eq_true rfl) hr1 dL_law_1444 (fun r c1 hp => ?_)
  refine z_eq (ws' := mw am cI dg mm ++ (cw ad cI cR cS c1 ++ [oE cL o f])) (lv' := [(4, .int (nI i)), (0, .ref b), (1, .ref (ad 106)), (2, .ref (am 0)), (3, .ref o)]) (st' := [.long r]) rfl rfl rfl ?_
  refine z_aload_n E dL_law_1447 rfl 3 rfl ?_
  refine z_callVl E hZ ((k_mdigest l D am cI cR cS cL dg mm hok hS (pq := fun i => (cm (3 * i) 7).toNatClampNeg) (fun i hi => zOK_pp hok i hi) (hR.2.1.2.2.2.2.1.trans hR.2.1.2.2.2.1.symm) hR.2.2 hnn hsh).fr [] (cw ad cI cR cS c1 ++ [oE cL o f])) gL_law_X6_digest (n := 0) rfl rfl rfl (by decide +kernel) rfl ⟨(Nat.le_of_ble_eq_true rfl), (Nat.le_of_ble_eq_true rfl)⟩ (C := RX6) rfl 0 lw_mod (As := []) (rest := [.long r]) rfl (Nat.le_of_ble_eq_true rfl) hr1 dL_law_1448 (fun r2 m1 hp2 => ?_)
  obtain ⟨dg2, m1⟩ := m1
  refine z_eq (ws' := mw am cI dg2 m1 ++ (cw ad cI cR cS c1 ++ [oE cL o f])) (lv' := [(4, .int (nI i)), (0, .ref b), (1, .ref (ad 106)), (2, .ref (am 0)), (3, .ref o)]) (st' := [.long r2, .long r]) rfl rfl rfl ?_
  obtain ⟨bt1, hb1, hr1q, htr⟩ := hp
  obtain ⟨bt2, hb2, hr2, hsc⟩ := hp2
  have hbb := zBitsR_unique hb1 hb2
  subst hbb
  have hk : r = r2 := hr1q.trans hr2.symm
  have hR2 : zR (B + 180) c1 m1 q z L := zR_tr (zR_mono (by omega) (zR_scr (zR_fld hR (mset_ne _ _ _ (by decide)) (mset_ne _ _ _ (by decide)) (mset_ne _ _ _ (by decide)) (mset_ne2 _ _ (by decide)) (mset_ne2 _ _ (by decide))) hsc)) htr
  refine z_lcmp E dL_law_1451 ?_
  refine z_if_eq_t (tgt := 1457) E dL_law_1452 (by decide) ((lg_cmp_eq _ _).mpr hk) ?_
  refine z_widen (k := cells + 1) (n := slots + 6) (by omega) (by omega) ?_
  exact K _ _ _ _ _ _ _ hR2
end ZLC
