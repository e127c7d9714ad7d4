/-! an act by a number -/
def zLadd (v : Int32) : Int32 := fLow (v >>> ((4 : Int32) &&& 31)) (if fLow (v >>> ((23 : Int32) &&& 31)) 6 = 0 then 5 else 3)
/-- what is tried, and with what -/
def zDec (v : Int32) : Int32 × Int32 × Int32 × Int32 :=
  if 5 ≤ fLow v 16 then
    if 10 ≤ fLow v 16 then
      if fLow v 16 = 10 then (4, zLadd v, fLow ((v >>> ((4 : Int32) &&& 31)) >>> ((3 : Int32) &&& 31)) 3, 0)
      else if 13 ≤ fLow v 16 then
        if fLow v 16 = 13 then (1, zLadd v, if fLow (v >>> ((20 : Int32) &&& 31)) 5 ≤ 0 then fLow ((v >>> ((4 : Int32) &&& 31)) >>> ((3 : Int32) &&& 31)) 5 else fLow ((v >>> ((4 : Int32) &&& 31)) >>> ((3 : Int32) &&& 31)) 4, fLow ((v >>> ((4 : Int32) &&& 31)) >>> ((5 : Int32) &&& 31)) 4)
        else (2, zLadd v, if fLow (v >>> ((20 : Int32) &&& 31)) 5 ≤ 0 then fLow ((v >>> ((4 : Int32) &&& 31)) >>> ((3 : Int32) &&& 31)) 220 else fLow ((v >>> ((4 : Int32) &&& 31)) >>> ((3 : Int32) &&& 31)) 60, 0)
      else (0, zLadd v, if fLow (v >>> ((20 : Int32) &&& 31)) 5 ≤ 0 then 0 + fLow ((v >>> ((4 : Int32) &&& 31)) >>> ((3 : Int32) &&& 31)) 91 else 10 + fLow ((v >>> ((4 : Int32) &&& 31)) >>> ((3 : Int32) &&& 31)) 91, if fLow (v >>> ((20 : Int32) &&& 31)) 5 ≤ 0 then 0 + fLow ((v >>> ((4 : Int32) &&& 31)) >>> ((5 : Int32) &&& 31)) 251 else 50 + fLow ((v >>> ((4 : Int32) &&& 31)) >>> ((5 : Int32) &&& 31)) 251)
    else (5, zLadd v, if fLow (v >>> ((20 : Int32) &&& 31)) 5 ≤ 0 then fLow ((v >>> ((4 : Int32) &&& 31)) >>> ((3 : Int32) &&& 31)) 13 else fLow ((v >>> ((4 : Int32) &&& 31)) >>> ((3 : Int32) &&& 31)) 11, fLow ((v >>> ((4 : Int32) &&& 31)) >>> ((5 : Int32) &&& 31)) 3)
  else (3, zLadd v, if fLow (v >>> ((20 : Int32) &&& 31)) 5 ≤ 0 then 0 + fLow ((v >>> ((4 : Int32) &&& 31)) >>> ((3 : Int32) &&& 31)) 131 else 20 + fLow ((v >>> ((4 : Int32) &&& 31)) >>> ((3 : Int32) &&& 31)) 131, 0)
/-- what comes of it -/
def sCh (t : Int32 × Int32 × Int32 × Int32) (mem : zM) (q z : Nat) : zO := if t.1 = 0 then sPut mem q z t.2.1 t.2.2.1 t.2.2.2 (5 + t.2.2.1 / 2) else if t.1 = 1 then sKinds mem q z t.2.1 t.2.2.1 t.2.2.2 else if t.1 = 2 then sRope mem q z t.2.1 t.2.2.1 else if t.1 = 3 then sOn mem q z t.2.1 t.2.2.1 else if t.1 = 4 then sOff mem q z t.2.1 t.2.2.1 else sClimb mem q z t.2.1 t.2.2.2 t.2.2.1
theorem sCh_put (x a b : Int32) (mem : zM) (q z : Nat) : sCh (0, x, a, b) mem q z = sPut mem q z x a b (5 + a / 2) := if_pos rfl
theorem sCh_kinds (x a b : Int32) (mem : zM) (q z : Nat) : sCh (1, x, a, b) mem q z = sKinds mem q z x a b := (if_neg (by decide : ¬ (1 : Int32) = 0)).trans (if_pos rfl)
theorem sCh_rope (x a b : Int32) (mem : zM) (q z : Nat) : sCh (2, x, a, b) mem q z = sRope mem q z x a := (if_neg (by decide : ¬ (2 : Int32) = 0)).trans ((if_neg (by decide : ¬ (2 : Int32) = 1)).trans (if_pos rfl))
theorem sCh_on (x a b : Int32) (mem : zM) (q z : Nat) : sCh (3, x, a, b) mem q z = sOn mem q z x a := (if_neg (by decide : ¬ (3 : Int32) = 0)).trans ((if_neg (by decide : ¬ (3 : Int32) = 1)).trans ((if_neg (by decide : ¬ (3 : Int32) = 2)).trans (if_pos rfl)))
theorem sCh_off (x a b : Int32) (mem : zM) (q z : Nat) : sCh (4, x, a, b) mem q z = sOff mem q z x a := (if_neg (by decide : ¬ (4 : Int32) = 0)).trans ((if_neg (by decide : ¬ (4 : Int32) = 1)).trans ((if_neg (by decide : ¬ (4 : Int32) = 2)).trans ((if_neg (by decide : ¬ (4 : Int32) = 3)).trans (if_pos rfl))))
theorem sCh_climb (x a b : Int32) (mem : zM) (q z : Nat) : sCh (5, x, a, b) mem q z = sClimb mem q z x b a := (if_neg (by decide : ¬ (5 : Int32) = 0)).trans ((if_neg (by decide : ¬ (5 : Int32) = 1)).trans ((if_neg (by decide : ¬ (5 : Int32) = 2)).trans ((if_neg (by decide : ¬ (5 : Int32) = 3)).trans (if_neg (by decide : ¬ (5 : Int32) = 4)))))
set_option maxHeartbeats 4000000 in
set_option maxRecDepth 100000 in
theorem k_act (l : Launch) (D : va_G) (ad : Nat → Nat) (cI cR cS cL : ClassId) (mem : zM) (hl : l.stackTraces = false) (o : Nat) (f : Nat → Int32) (v : Int32) {q : Nat} (hq : q < 6) (hn : mem 101 1 = nI q) {z : Nat} (hz : z ≤ 6) (hs : mem 101 2 = nI z) (hA : ∀ i, i < 4 → ∀ t, t < 3 → ∃ a, a ≤ 10 ∧ mem (3 * i + 2) t = nI a) : zMT l yL_act wsL_act ({ frames := 9, cells := 1, slots := 6, locals := 163 }) D (cK cI cR cS cL) [.ref (ad 106), .int v, .ref o] (cw ad cI cR cS mem ++ [iE cI o f]) (pWr (sCh (zDec v) mem q z)) (fun u : zM × (Nat → Int32) => cw ad cI cR cS u.1 ++ [iE cI o u.2]) 1 6 := by
  refine zMTc.of (cc := cL_act) (maxL := 7) (ret := (some .int)) (by decide +kernel) rfl (lv0 := [(0, .ref (ad 106)), (1, .int v), (2, .ref o)]) (Nat.le_of_ble_eq_true rfl) rfl ?_
  intro p e s m args below meth c E hZ hN hr hlocks
  refine z_iload_n E dL_act_0 rfl 1 rfl ?_
  refine z_bipush (v := 16) E dL_act_1 (by decide) ?_
  refine z_callSi E hZ (k_low l D cI cR cS cL (cw ad cI cR cS mem ++ [iE cI o f]) v 16 (by decide)) gL_act_L_low (n := 2) rfl rfl rfl (by decide +kernel) rfl ⟨(Nat.le_of_ble_eq_true rfl), (Nat.le_of_ble_eq_true rfl)⟩ (As := [.int v, .int 16]) (rest := []) rfl (Nat.le_of_ble_eq_true rfl) ⟨(Nat.le_of_ble_eq_true rfl), (Nat.le_of_ble_eq_true rfl)⟩ dL_act_3 (fun r u hp => ?_)
  rw [hp]
  refine z_istore_n (lv' := [(3, .int (fLow v 16)), (0, .ref (ad 106)), (1, .int v), (2, .ref o)]) E dL_act_6 rfl (by decide) rfl ?_
  refine z_iload_n E dL_act_7 rfl 2 rfl ?_
  refine z_iconst (v := 4) E dL_act_8 (by decide) ?_
  refine z_ishr E dL_act_9 ?_
  refine z_istore (lv' := [(4, .int (v >>> ((4 : Int32) &&& 31))), (3, .int (fLow v 16)), (0, .ref (ad 106)), (1, .int v), (2, .ref o)]) E dL_act_10 (by decide) rfl ?_
  refine z_iload E dL_act_12 0 rfl ?_
  refine z_iload_n E dL_act_14 rfl 3 rfl ?_
  refine z_bipush (v := 23) E dL_act_15 (by decide) ?_
  refine z_ishr E dL_act_17 ?_
  refine z_bipush (v := 6) E dL_act_18 (by decide) ?_
  refine z_callSi E hZ (k_low l D cI cR cS cL (cw ad cI cR cS mem ++ [iE cI o f]) (v >>> ((23 : Int32) &&& 31)) 6 (by decide)) gL_act_L_low (n := 2) rfl rfl rfl (by decide +kernel) rfl ⟨(Nat.le_of_ble_eq_true rfl), (Nat.le_of_ble_eq_true rfl)⟩ (As := [.int (v >>> ((23 : Int32) &&& 31)), .int 6]) (rest := [.int (v >>> ((4 : Int32) &&& 31))]) rfl (Nat.le_of_ble_eq_true rfl) ⟨(Nat.le_of_ble_eq_true rfl), (Nat.le_of_ble_eq_true rfl)⟩ dL_act_20 (fun r u hp => ?_)
  rw [hp]
  refine z_join (fun v31 => v31 = if fLow (v >>> ((23 : Int32) &&& 31)) 6 = 0 then (5 : Int32) else 3) (pc2 := 31) (c2 := 0) (s2 := 0) (lv2 := (fun _ => [(4, .int (v >>> ((4 : Int32) &&& 31))), (3, .int (fLow v 16)), (0, .ref (ad 106)), (1, .int v), (2, .ref o)])) (st2 := (fun v31 => [.int v31, .int (v >>> ((4 : Int32) &&& 31))])) (fun v31 hv31 => ?_) (fun J31 => ?_)
  · subst hv31
    refine z_callSi E hZ (k_low l D cI cR cS cL (cw ad cI cR cS mem ++ [iE cI o f]) (v >>> ((4 : Int32) &&& 31)) (if fLow (v >>> ((23 : Int32) &&& 31)) 6 = 0 then (5 : Int32) else 3) (by split <;> decide)) gL_act_L_low (n := 2) rfl rfl rfl (by decide +kernel) rfl ⟨(Nat.le_of_ble_eq_true rfl), (Nat.le_of_ble_eq_true rfl)⟩ (As := [.int (v >>> ((4 : Int32) &&& 31)), .int (if fLow (v >>> ((23 : Int32) &&& 31)) 6 = 0 then (5 : Int32) else 3)]) (rest := []) rfl (Nat.le_of_ble_eq_true rfl) ⟨(Nat.le_of_ble_eq_true rfl), (Nat.le_of_ble_eq_true rfl)⟩ dL_act_31 (fun r u hp => ?_)
    rw [hp]
    refine z_istore (lv' := [(5, .int (fLow (v >>> ((4 : Int32) &&& 31)) (if fLow (v >>> ((23 : Int32) &&& 31)) 6 = 0 then (5 : Int32) else 3))), (4, .int (v >>> ((4 : Int32) &&& 31))), (3, .int (fLow v 16)), (0, .ref (ad 106)), (1, .int v), (2, .ref o)]) E dL_act_34 (by decide) rfl ?_
    refine z_iload_n E dL_act_36 rfl 4 rfl ?_
    refine z_bipush (v := 20) E dL_act_37 (by decide) ?_
    refine z_ishr E dL_act_39 ?_
    refine z_iconst (v := 5) E dL_act_40 (by decide) ?_
    refine z_callSi E hZ (k_low l D cI cR cS cL (cw ad cI cR cS mem ++ [iE cI o f]) (v >>> ((20 : Int32) &&& 31)) 5 (by decide)) gL_act_L_low (n := 2) rfl rfl rfl (by decide +kernel) rfl ⟨(Nat.le_of_ble_eq_true rfl), (Nat.le_of_ble_eq_true rfl)⟩ (As := [.int (v >>> ((20 : Int32) &&& 31)), .int 5]) (rest := []) rfl (Nat.le_of_ble_eq_true rfl) ⟨(Nat.le_of_ble_eq_true rfl), (Nat.le_of_ble_eq_true rfl)⟩ dL_act_41 (fun r u hp => ?_)
    rw [hp]
    refine z_if_le (tgt := 51) E dL_act_44 (by decide) (fun c44 => ?_) (fun c44 => ?_)
    · skip
      refine z_iconst (v := 0) E dL_act_51 (by decide) ?_
      refine z_istore (lv' := [(6, .int 0), (5, .int (fLow (v >>> ((4 : Int32) &&& 31)) (if fLow (v >>> ((23 : Int32) &&& 31)) 6 = 0 then (5 : Int32) else 3))), (4, .int (v >>> ((4 : Int32) &&& 31))), (3, .int (fLow v 16)), (0, .ref (ad 106)), (1, .int v), (2, .ref o)]) E dL_act_52 (by decide) rfl ?_
      refine z_iload_n E dL_act_54 rfl 3 rfl ?_
      refine z_iconst (v := 5) E dL_act_55 (by decide) ?_
      refine z_icmp_ge (tgt := 91) E dL_act_56 (by decide) (fun c56 => ?_) (fun c56 => ?_)
      · skip
        refine z_iload_n E dL_act_91 rfl 3 rfl ?_
        refine z_bipush (v := 10) E dL_act_92 (by decide) ?_
        refine z_icmp_ge (tgt := 133) E dL_act_94 (by decide) (fun c94 => ?_) (fun c94 => ?_)
        · skip
          refine z_iload_n E dL_act_133 rfl 3 rfl ?_
          refine z_bipush (v := 10) E dL_act_134 (by decide) ?_
          refine z_icmp_ne (tgt := 157) E dL_act_136 (by decide) (fun c136 => ?_) (fun c136 => ?_)
          · skip
            refine z_iload_n E dL_act_157 rfl 3 rfl ?_
            refine z_bipush (v := 13) E dL_act_158 (by decide) ?_
            refine z_icmp_ge (tgt := 215) E dL_act_160 (by decide) (fun c160 => ?_) (fun c160 => ?_)
            · skip
              refine z_iload_n E dL_act_215 rfl 3 rfl ?_
              refine z_bipush (v := 13) E dL_act_216 (by decide) ?_
              refine z_icmp_ne (tgt := 257) E dL_act_218 (by decide) (fun c218 => ?_) (fun c218 => ?_)
              · skip
                refine z_aload_n E dL_act_257 rfl 4 rfl ?_
                refine z_iconst (v := 2) E dL_act_258 (by decide) ?_
                refine z_iload E dL_act_259 1 rfl ?_
                refine z_iload E dL_act_261 2 rfl ?_
                refine z_iconst (v := 3) E dL_act_263 (by decide) ?_
                refine z_ishr E dL_act_264 ?_
                refine z_iload E dL_act_265 0 rfl ?_
                refine z_if_eq_t (tgt := 275) E dL_act_267 (by decide) (by decide) ?_
                refine z_sipush (v := 220) E dL_act_275 (by decide) ?_
                refine z_callSi E hZ (k_low l D cI cR cS cL (cw ad cI cR cS mem ++ [iE cI o f]) ((v >>> ((4 : Int32) &&& 31)) >>> ((3 : Int32) &&& 31)) 220 (by decide)) gL_act_L_low (n := 2) rfl rfl rfl (by decide +kernel) rfl ⟨(Nat.le_of_ble_eq_true rfl), (Nat.le_of_ble_eq_true rfl)⟩ (As := [.int ((v >>> ((4 : Int32) &&& 31)) >>> ((3 : Int32) &&& 31)), .int 220]) (rest := [.int (fLow (v >>> ((4 : Int32) &&& 31)) (if fLow (v >>> ((23 : Int32) &&& 31)) 6 = 0 then (5 : Int32) else 3)), .int 2, .ref (ad 106)]) rfl (Nat.le_of_ble_eq_true rfl) ⟨(Nat.le_of_ble_eq_true rfl), (Nat.le_of_ble_eq_true rfl)⟩ dL_act_278 (fun r u hp => ?_)
                rw [hp]
                refine z_iconst (v := 0) E dL_act_281 (by decide) ?_
                refine z_aload_n E dL_act_282 rfl 6 rfl ?_
                have e0 : zDec v = (2, fLow (v >>> ((4 : Int32) &&& 31)) (if fLow (v >>> ((23 : Int32) &&& 31)) 6 = 0 then (5 : Int32) else 3), fLow ((v >>> ((4 : Int32) &&& 31)) >>> ((3 : Int32) &&& 31)) 220, 0) := by unfold zDec zLadd; rw [if_pos c56, if_pos c94, if_neg c136, if_pos c160, if_neg c218, if_pos c44]
                refine z_callSW E hZ hN (w_rope l D ad cI cR cS cL mem hl o f (fLow (v >>> ((4 : Int32) &&& 31)) (if fLow (v >>> ((23 : Int32) &&& 31)) 6 = 0 then (5 : Int32) else 3)) (fLow ((v >>> ((4 : Int32) &&& 31)) >>> ((3 : Int32) &&& 31)) 220) 0 hq hn hz hs) gL_act_L_changes (n := 6) rfl rfl rfl (by decide +kernel) rfl ⟨(Nat.le_of_ble_eq_true rfl), (Nat.le_of_ble_eq_true rfl)⟩ (As := [.ref (ad 106), .int 2, .int (fLow (v >>> ((4 : Int32) &&& 31)) (if fLow (v >>> ((23 : Int32) &&& 31)) 6 = 0 then (5 : Int32) else 3)), .int (fLow ((v >>> ((4 : Int32) &&& 31)) >>> ((3 : Int32) &&& 31)) 220), .int 0, .ref o]) (rest := []) rfl (Nat.le_of_ble_eq_true rfl) ⟨(Nat.le_of_ble_eq_true rfl), (Nat.le_of_ble_eq_true rfl)⟩ dL_act_283 (fun r u hp => ?_)
                exact z_iretM E hr hlocks (u) rfl (by rw [e0, sCh_rope]; exact hp) (Nat.le_of_ble_eq_true rfl) (Nat.le_of_ble_eq_true rfl) dL_act_286
              · skip
                refine z_aload_n E dL_act_221 rfl 4 rfl ?_
                refine z_iconst (v := 1) E dL_act_222 (by decide) ?_
                refine z_iload E dL_act_223 1 rfl ?_
                refine z_iload E dL_act_225 2 rfl ?_
                refine z_iconst (v := 3) E dL_act_227 (by decide) ?_
                refine z_ishr E dL_act_228 ?_
                refine z_iload E dL_act_229 0 rfl ?_
                refine z_if_eq_t (tgt := 238) E dL_act_231 (by decide) (by decide) ?_
                refine z_iconst (v := 5) E dL_act_238 (by decide) ?_
                refine z_callSi E hZ (k_low l D cI cR cS cL (cw ad cI cR cS mem ++ [iE cI o f]) ((v >>> ((4 : Int32) &&& 31)) >>> ((3 : Int32) &&& 31)) 5 (by decide)) gL_act_L_low (n := 2) rfl rfl rfl (by decide +kernel) rfl ⟨(Nat.le_of_ble_eq_true rfl), (Nat.le_of_ble_eq_true rfl)⟩ (As := [.int ((v >>> ((4 : Int32) &&& 31)) >>> ((3 : Int32) &&& 31)), .int 5]) (rest := [.int (fLow (v >>> ((4 : Int32) &&& 31)) (if fLow (v >>> ((23 : Int32) &&& 31)) 6 = 0 then (5 : Int32) else 3)), .int 1, .ref (ad 106)]) rfl (Nat.le_of_ble_eq_true rfl) ⟨(Nat.le_of_ble_eq_true rfl), (Nat.le_of_ble_eq_true rfl)⟩ dL_act_239 (fun r u hp => ?_)
                rw [hp]
                refine z_iload E dL_act_242 2 rfl ?_
                refine z_iconst (v := 5) E dL_act_244 (by decide) ?_
                refine z_ishr E dL_act_245 ?_
                refine z_iconst (v := 4) E dL_act_246 (by decide) ?_
                refine z_callSi E hZ (k_low l D cI cR cS cL (cw ad cI cR cS mem ++ [iE cI o f]) ((v >>> ((4 : Int32) &&& 31)) >>> ((5 : Int32) &&& 31)) 4 (by decide)) gL_act_L_low (n := 2) rfl rfl rfl (by decide +kernel) rfl ⟨(Nat.le_of_ble_eq_true rfl), (Nat.le_of_ble_eq_true rfl)⟩ (As := [.int ((v >>> ((4 : Int32) &&& 31)) >>> ((5 : Int32) &&& 31)), .int 4]) (rest := [.int (fLow ((v >>> ((4 : Int32) &&& 31)) >>> ((3 : Int32) &&& 31)) 5), .int (fLow (v >>> ((4 : Int32) &&& 31)) (if fLow (v >>> ((23 : Int32) &&& 31)) 6 = 0 then (5 : Int32) else 3)), .int 1, .ref (ad 106)]) rfl (Nat.le_of_ble_eq_true rfl) ⟨(Nat.le_of_ble_eq_true rfl), (Nat.le_of_ble_eq_true rfl)⟩ dL_act_247 (fun r u hp => ?_)
                rw [hp]
                refine z_aload_n E dL_act_250 rfl 6 rfl ?_
                have e0 : zDec v = (1, fLow (v >>> ((4 : Int32) &&& 31)) (if fLow (v >>> ((23 : Int32) &&& 31)) 6 = 0 then (5 : Int32) else 3), fLow ((v >>> ((4 : Int32) &&& 31)) >>> ((3 : Int32) &&& 31)) 5, fLow ((v >>> ((4 : Int32) &&& 31)) >>> ((5 : Int32) &&& 31)) 4) := by unfold zDec zLadd; rw [if_pos c56, if_pos c94, if_neg c136, if_pos c160, if_pos c218, if_pos c44]
                refine z_callSW E hZ hN (w_kinds l D ad cI cR cS cL mem hl o f (fLow (v >>> ((4 : Int32) &&& 31)) (if fLow (v >>> ((23 : Int32) &&& 31)) 6 = 0 then (5 : Int32) else 3)) (fLow ((v >>> ((4 : Int32) &&& 31)) >>> ((3 : Int32) &&& 31)) 5) (fLow ((v >>> ((4 : Int32) &&& 31)) >>> ((5 : Int32) &&& 31)) 4) hq hn hz hs) gL_act_L_changes (n := 6) rfl rfl rfl (by decide +kernel) rfl ⟨(Nat.le_of_ble_eq_true rfl), (Nat.le_of_ble_eq_true rfl)⟩ (As := [.ref (ad 106), .int 1, .int (fLow (v >>> ((4 : Int32) &&& 31)) (if fLow (v >>> ((23 : Int32) &&& 31)) 6 = 0 then (5 : Int32) else 3)), .int (fLow ((v >>> ((4 : Int32) &&& 31)) >>> ((3 : Int32) &&& 31)) 5), .int (fLow ((v >>> ((4 : Int32) &&& 31)) >>> ((5 : Int32) &&& 31)) 4), .ref o]) (rest := []) rfl (Nat.le_of_ble_eq_true rfl) ⟨(Nat.le_of_ble_eq_true rfl), (Nat.le_of_ble_eq_true rfl)⟩ dL_act_251 (fun r u hp => ?_)
                refine z_goto (tgt := 286) E dL_act_254 (by decide) ?_
                exact z_iretM E hr hlocks (u) rfl (by rw [e0, sCh_kinds]; exact hp) (Nat.le_of_ble_eq_true rfl) (Nat.le_of_ble_eq_true rfl) dL_act_286
            · skip
              refine z_aload_n E dL_act_163 rfl 4 rfl ?_
              refine z_iconst (v := 0) E dL_act_164 (by decide) ?_
              refine z_iload E dL_act_165 1 rfl ?_
              refine z_iload E dL_act_167 0 rfl ?_
              refine z_if_eq_t (tgt := 177) E dL_act_169 (by decide) (by decide) ?_
              refine z_iconst (v := 0) E dL_act_177 (by decide) ?_
              refine z_iload E dL_act_178 2 rfl ?_
              refine z_iconst (v := 3) E dL_act_180 (by decide) ?_
              refine z_ishr E dL_act_181 ?_
              refine z_bipush (v := 91) E dL_act_182 (by decide) ?_
              refine z_callSi E hZ (k_low l D cI cR cS cL (cw ad cI cR cS mem ++ [iE cI o f]) ((v >>> ((4 : Int32) &&& 31)) >>> ((3 : Int32) &&& 31)) 91 (by decide)) gL_act_L_low (n := 2) rfl rfl rfl (by decide +kernel) rfl ⟨(Nat.le_of_ble_eq_true rfl), (Nat.le_of_ble_eq_true rfl)⟩ (As := [.int ((v >>> ((4 : Int32) &&& 31)) >>> ((3 : Int32) &&& 31)), .int 91]) (rest := [.int 0, .int (fLow (v >>> ((4 : Int32) &&& 31)) (if fLow (v >>> ((23 : Int32) &&& 31)) 6 = 0 then (5 : Int32) else 3)), .int 0, .ref (ad 106)]) rfl (Nat.le_of_ble_eq_true rfl) ⟨(Nat.le_of_ble_eq_true rfl), (Nat.le_of_ble_eq_true rfl)⟩ dL_act_184 (fun r u hp => ?_)
              rw [hp]
              refine z_iadd E dL_act_187 ?_
              refine z_iload E dL_act_188 0 rfl ?_
              refine z_if_eq_t (tgt := 198) E dL_act_190 (by decide) (by decide) ?_
              refine z_iconst (v := 0) E dL_act_198 (by decide) ?_
              refine z_iload E dL_act_199 2 rfl ?_
              refine z_iconst (v := 5) E dL_act_201 (by decide) ?_
              refine z_ishr E dL_act_202 ?_
              refine z_sipush (v := 251) E dL_act_203 (by decide) ?_
              refine z_callSi E hZ (k_low l D cI cR cS cL (cw ad cI cR cS mem ++ [iE cI o f]) ((v >>> ((4 : Int32) &&& 31)) >>> ((5 : Int32) &&& 31)) 251 (by decide)) gL_act_L_low (n := 2) rfl rfl rfl (by decide +kernel) rfl ⟨(Nat.le_of_ble_eq_true rfl), (Nat.le_of_ble_eq_true rfl)⟩ (As := [.int ((v >>> ((4 : Int32) &&& 31)) >>> ((5 : Int32) &&& 31)), .int 251]) (rest := [.int 0, .int (0 + (fLow ((v >>> ((4 : Int32) &&& 31)) >>> ((3 : Int32) &&& 31)) 91)), .int (fLow (v >>> ((4 : Int32) &&& 31)) (if fLow (v >>> ((23 : Int32) &&& 31)) 6 = 0 then (5 : Int32) else 3)), .int 0, .ref (ad 106)]) rfl (Nat.le_of_ble_eq_true rfl) ⟨(Nat.le_of_ble_eq_true rfl), (Nat.le_of_ble_eq_true rfl)⟩ dL_act_206 (fun r u hp => ?_)
              rw [hp]
              refine z_iadd E dL_act_209 ?_
              refine z_aload_n E dL_act_210 rfl 6 rfl ?_
              have e0 : zDec v = (0, fLow (v >>> ((4 : Int32) &&& 31)) (if fLow (v >>> ((23 : Int32) &&& 31)) 6 = 0 then (5 : Int32) else 3), 0 + (fLow ((v >>> ((4 : Int32) &&& 31)) >>> ((3 : Int32) &&& 31)) 91), 0 + (fLow ((v >>> ((4 : Int32) &&& 31)) >>> ((5 : Int32) &&& 31)) 251)) := by unfold zDec zLadd; rw [if_pos c56, if_pos c94, if_neg c136, if_neg c160, if_pos c44, if_pos c44]
              refine z_callSW E hZ hN (w_put l D ad cI cR cS cL mem hl o f (fLow (v >>> ((4 : Int32) &&& 31)) (if fLow (v >>> ((23 : Int32) &&& 31)) 6 = 0 then (5 : Int32) else 3)) (0 + (fLow ((v >>> ((4 : Int32) &&& 31)) >>> ((3 : Int32) &&& 31)) 91)) (0 + (fLow ((v >>> ((4 : Int32) &&& 31)) >>> ((5 : Int32) &&& 31)) 251)) hq hn hz hs) gL_act_L_changes (n := 6) rfl rfl rfl (by decide +kernel) rfl ⟨(Nat.le_of_ble_eq_true rfl), (Nat.le_of_ble_eq_true rfl)⟩ (As := [.ref (ad 106), .int 0, .int (fLow (v >>> ((4 : Int32) &&& 31)) (if fLow (v >>> ((23 : Int32) &&& 31)) 6 = 0 then (5 : Int32) else 3)), .int (0 + (fLow ((v >>> ((4 : Int32) &&& 31)) >>> ((3 : Int32) &&& 31)) 91)), .int (0 + (fLow ((v >>> ((4 : Int32) &&& 31)) >>> ((5 : Int32) &&& 31)) 251)), .ref o]) (rest := []) rfl (Nat.le_of_ble_eq_true rfl) ⟨(Nat.le_of_ble_eq_true rfl), (Nat.le_of_ble_eq_true rfl)⟩ dL_act_211 (fun r u hp => ?_)
              exact z_iretM E hr hlocks (u) rfl (by rw [e0, sCh_put]; exact hp) (Nat.le_of_ble_eq_true rfl) (Nat.le_of_ble_eq_true rfl) dL_act_214
          · skip
            refine z_aload_n E dL_act_139 rfl 4 rfl ?_
            refine z_iconst (v := 4) E dL_act_140 (by decide) ?_
            refine z_iload E dL_act_141 1 rfl ?_
            refine z_iload E dL_act_143 2 rfl ?_
            refine z_iconst (v := 3) E dL_act_145 (by decide) ?_
            refine z_ishr E dL_act_146 ?_
            refine z_iconst (v := 3) E dL_act_147 (by decide) ?_
            refine z_callSi E hZ (k_low l D cI cR cS cL (cw ad cI cR cS mem ++ [iE cI o f]) ((v >>> ((4 : Int32) &&& 31)) >>> ((3 : Int32) &&& 31)) 3 (by decide)) gL_act_L_low (n := 2) rfl rfl rfl (by decide +kernel) rfl ⟨(Nat.le_of_ble_eq_true rfl), (Nat.le_of_ble_eq_true rfl)⟩ (As := [.int ((v >>> ((4 : Int32) &&& 31)) >>> ((3 : Int32) &&& 31)), .int 3]) (rest := [.int (fLow (v >>> ((4 : Int32) &&& 31)) (if fLow (v >>> ((23 : Int32) &&& 31)) 6 = 0 then (5 : Int32) else 3)), .int 4, .ref (ad 106)]) rfl (Nat.le_of_ble_eq_true rfl) ⟨(Nat.le_of_ble_eq_true rfl), (Nat.le_of_ble_eq_true rfl)⟩ dL_act_148 (fun r u hp => ?_)
            rw [hp]
            refine z_iconst (v := 0) E dL_act_151 (by decide) ?_
            refine z_aload_n E dL_act_152 rfl 6 rfl ?_
            have e0 : zDec v = (4, fLow (v >>> ((4 : Int32) &&& 31)) (if fLow (v >>> ((23 : Int32) &&& 31)) 6 = 0 then (5 : Int32) else 3), fLow ((v >>> ((4 : Int32) &&& 31)) >>> ((3 : Int32) &&& 31)) 3, 0) := by unfold zDec zLadd; rw [if_pos c56, if_pos c94, if_pos c136]
            refine z_callSW E hZ hN (w_off l D ad cI cR cS cL mem hl o f (fLow (v >>> ((4 : Int32) &&& 31)) (if fLow (v >>> ((23 : Int32) &&& 31)) 6 = 0 then (5 : Int32) else 3)) (fLow ((v >>> ((4 : Int32) &&& 31)) >>> ((3 : Int32) &&& 31)) 3) 0 hq hn hz hs) gL_act_L_changes (n := 6) rfl rfl rfl (by decide +kernel) rfl ⟨(Nat.le_of_ble_eq_true rfl), (Nat.le_of_ble_eq_true rfl)⟩ (As := [.ref (ad 106), .int 4, .int (fLow (v >>> ((4 : Int32) &&& 31)) (if fLow (v >>> ((23 : Int32) &&& 31)) 6 = 0 then (5 : Int32) else 3)), .int (fLow ((v >>> ((4 : Int32) &&& 31)) >>> ((3 : Int32) &&& 31)) 3), .int 0, .ref o]) (rest := []) rfl (Nat.le_of_ble_eq_true rfl) ⟨(Nat.le_of_ble_eq_true rfl), (Nat.le_of_ble_eq_true rfl)⟩ dL_act_153 (fun r u hp => ?_)
            exact z_iretM E hr hlocks (u) rfl (by rw [e0, sCh_off]; exact hp) (Nat.le_of_ble_eq_true rfl) (Nat.le_of_ble_eq_true rfl) dL_act_156
        · skip
          refine z_aload_n E dL_act_97 rfl 4 rfl ?_
          refine z_iconst (v := 5) E dL_act_98 (by decide) ?_
          refine z_iload E dL_act_99 1 rfl ?_
          refine z_iload E dL_act_101 2 rfl ?_
          refine z_iconst (v := 3) E dL_act_103 (by decide) ?_
          refine z_ishr E dL_act_104 ?_
          refine z_iload E dL_act_105 0 rfl ?_
          refine z_if_eq_t (tgt := 115) E dL_act_107 (by decide) (by decide) ?_
          refine z_bipush (v := 13) E dL_act_115 (by decide) ?_
          refine z_callSi E hZ (k_low l D cI cR cS cL (cw ad cI cR cS mem ++ [iE cI o f]) ((v >>> ((4 : Int32) &&& 31)) >>> ((3 : Int32) &&& 31)) 13 (by decide)) gL_act_L_low (n := 2) rfl rfl rfl (by decide +kernel) rfl ⟨(Nat.le_of_ble_eq_true rfl), (Nat.le_of_ble_eq_true rfl)⟩ (As := [.int ((v >>> ((4 : Int32) &&& 31)) >>> ((3 : Int32) &&& 31)), .int 13]) (rest := [.int (fLow (v >>> ((4 : Int32) &&& 31)) (if fLow (v >>> ((23 : Int32) &&& 31)) 6 = 0 then (5 : Int32) else 3)), .int 5, .ref (ad 106)]) rfl (Nat.le_of_ble_eq_true rfl) ⟨(Nat.le_of_ble_eq_true rfl), (Nat.le_of_ble_eq_true rfl)⟩ dL_act_117 (fun r u hp => ?_)
          rw [hp]
          refine z_iload E dL_act_120 2 rfl ?_
          refine z_iconst (v := 5) E dL_act_122 (by decide) ?_
          refine z_ishr E dL_act_123 ?_
          refine z_iconst (v := 3) E dL_act_124 (by decide) ?_
          refine z_callSi E hZ (k_low l D cI cR cS cL (cw ad cI cR cS mem ++ [iE cI o f]) ((v >>> ((4 : Int32) &&& 31)) >>> ((5 : Int32) &&& 31)) 3 (by decide)) gL_act_L_low (n := 2) rfl rfl rfl (by decide +kernel) rfl ⟨(Nat.le_of_ble_eq_true rfl), (Nat.le_of_ble_eq_true rfl)⟩ (As := [.int ((v >>> ((4 : Int32) &&& 31)) >>> ((5 : Int32) &&& 31)), .int 3]) (rest := [.int (fLow ((v >>> ((4 : Int32) &&& 31)) >>> ((3 : Int32) &&& 31)) 13), .int (fLow (v >>> ((4 : Int32) &&& 31)) (if fLow (v >>> ((23 : Int32) &&& 31)) 6 = 0 then (5 : Int32) else 3)), .int 5, .ref (ad 106)]) rfl (Nat.le_of_ble_eq_true rfl) ⟨(Nat.le_of_ble_eq_true rfl), (Nat.le_of_ble_eq_true rfl)⟩ dL_act_125 (fun r u hp => ?_)
          rw [hp]
          refine z_aload_n E dL_act_128 rfl 6 rfl ?_
          have e0 : zDec v = (5, fLow (v >>> ((4 : Int32) &&& 31)) (if fLow (v >>> ((23 : Int32) &&& 31)) 6 = 0 then (5 : Int32) else 3), fLow ((v >>> ((4 : Int32) &&& 31)) >>> ((3 : Int32) &&& 31)) 13, fLow ((v >>> ((4 : Int32) &&& 31)) >>> ((5 : Int32) &&& 31)) 3) := by unfold zDec zLadd; rw [if_pos c56, if_neg c94, if_pos c44]
          refine z_callSW E hZ hN (w_climb l D ad cI cR cS cL mem hl o f (fLow (v >>> ((4 : Int32) &&& 31)) (if fLow (v >>> ((23 : Int32) &&& 31)) 6 = 0 then (5 : Int32) else 3)) (fLow ((v >>> ((4 : Int32) &&& 31)) >>> ((3 : Int32) &&& 31)) 13) (fLow ((v >>> ((4 : Int32) &&& 31)) >>> ((5 : Int32) &&& 31)) 3) hq hn hz hs hA) gL_act_L_changes (n := 6) rfl rfl rfl (by decide +kernel) rfl ⟨(Nat.le_of_ble_eq_true rfl), (Nat.le_of_ble_eq_true rfl)⟩ (As := [.ref (ad 106), .int 5, .int (fLow (v >>> ((4 : Int32) &&& 31)) (if fLow (v >>> ((23 : Int32) &&& 31)) 6 = 0 then (5 : Int32) else 3)), .int (fLow ((v >>> ((4 : Int32) &&& 31)) >>> ((3 : Int32) &&& 31)) 13), .int (fLow ((v >>> ((4 : Int32) &&& 31)) >>> ((5 : Int32) &&& 31)) 3), .ref o]) (rest := []) rfl (Nat.le_of_ble_eq_true rfl) ⟨(Nat.le_of_ble_eq_true rfl), (Nat.le_of_ble_eq_true rfl)⟩ dL_act_129 (fun r u hp => ?_)
          exact z_iretM E hr hlocks (u) rfl (by rw [e0, sCh_climb]; exact hp) (Nat.le_of_ble_eq_true rfl) (Nat.le_of_ble_eq_true rfl) dL_act_132
      · skip
        refine z_aload_n E dL_act_59 rfl 4 rfl ?_
        refine z_iconst (v := 3) E dL_act_60 (by decide) ?_
        refine z_iload E dL_act_61 1 rfl ?_
        refine z_iload E dL_act_63 0 rfl ?_
        refine z_if_eq_t (tgt := 73) E dL_act_65 (by decide) (by decide) ?_
        refine z_iconst (v := 0) E dL_act_73 (by decide) ?_
        refine z_iload E dL_act_74 2 rfl ?_
        refine z_iconst (v := 3) E dL_act_76 (by decide) ?_
        refine z_ishr E dL_act_77 ?_
        refine z_sipush (v := 131) E dL_act_78 (by decide) ?_
        refine z_callSi E hZ (k_low l D cI cR cS cL (cw ad cI cR cS mem ++ [iE cI o f]) ((v >>> ((4 : Int32) &&& 31)) >>> ((3 : Int32) &&& 31)) 131 (by decide)) gL_act_L_low (n := 2) rfl rfl rfl (by decide +kernel) rfl ⟨(Nat.le_of_ble_eq_true rfl), (Nat.le_of_ble_eq_true rfl)⟩ (As := [.int ((v >>> ((4 : Int32) &&& 31)) >>> ((3 : Int32) &&& 31)), .int 131]) (rest := [.int 0, .int (fLow (v >>> ((4 : Int32) &&& 31)) (if fLow (v >>> ((23 : Int32) &&& 31)) 6 = 0 then (5 : Int32) else 3)), .int 3, .ref (ad 106)]) rfl (Nat.le_of_ble_eq_true rfl) ⟨(Nat.le_of_ble_eq_true rfl), (Nat.le_of_ble_eq_true rfl)⟩ dL_act_81 (fun r u hp => ?_)
        rw [hp]
        refine z_iadd E dL_act_84 ?_
        refine z_iconst (v := 0) E dL_act_85 (by decide) ?_
        refine z_aload_n E dL_act_86 rfl 6 rfl ?_
        have e0 : zDec v = (3, fLow (v >>> ((4 : Int32) &&& 31)) (if fLow (v >>> ((23 : Int32) &&& 31)) 6 = 0 then (5 : Int32) else 3), 0 + (fLow ((v >>> ((4 : Int32) &&& 31)) >>> ((3 : Int32) &&& 31)) 131), 0) := by unfold zDec zLadd; rw [if_neg c56, if_pos c44]
        refine z_callSW E hZ hN (w_on l D ad cI cR cS cL mem hl o f (fLow (v >>> ((4 : Int32) &&& 31)) (if fLow (v >>> ((23 : Int32) &&& 31)) 6 = 0 then (5 : Int32) else 3)) (0 + (fLow ((v >>> ((4 : Int32) &&& 31)) >>> ((3 : Int32) &&& 31)) 131)) 0 hq hn hz hs) gL_act_L_changes (n := 6) rfl rfl rfl (by decide +kernel) rfl ⟨(Nat.le_of_ble_eq_true rfl), (Nat.le_of_ble_eq_true rfl)⟩ (As := [.ref (ad 106), .int 3, .int (fLow (v >>> ((4 : Int32) &&& 31)) (if fLow (v >>> ((23 : Int32) &&& 31)) 6 = 0 then (5 : Int32) else 3)), .int (0 + (fLow ((v >>> ((4 : Int32) &&& 31)) >>> ((3 : Int32) &&& 31)) 131)), .int 0, .ref o]) (rest := []) rfl (Nat.le_of_ble_eq_true rfl) ⟨(Nat.le_of_ble_eq_true rfl), (Nat.le_of_ble_eq_true rfl)⟩ dL_act_87 (fun r u hp => ?_)
        exact z_iretM E hr hlocks (u) rfl (by rw [e0, sCh_on]; exact hp) (Nat.le_of_ble_eq_true rfl) (Nat.le_of_ble_eq_true rfl) dL_act_90
    · skip
      refine z_iconst (v := 1) E dL_act_47 (by decide) ?_
      refine z_goto (tgt := 52) E dL_act_48 (by decide) ?_
      refine z_istore (lv' := [(6, .int 1), (5, .int (fLow (v >>> ((4 : Int32) &&& 31)) (if fLow (v >>> ((23 : Int32) &&& 31)) 6 = 0 then (5 : Int32) else 3))), (4, .int (v >>> ((4 : Int32) &&& 31))), (3, .int (fLow v 16)), (0, .ref (ad 106)), (1, .int v), (2, .ref o)]) E dL_act_52 (by decide) rfl ?_
      refine z_iload_n E dL_act_54 rfl 3 rfl ?_
      refine z_iconst (v := 5) E dL_act_55 (by decide) ?_
      refine z_icmp_ge (tgt := 91) E dL_act_56 (by decide) (fun c56 => ?_) (fun c56 => ?_)
      · skip
        refine z_iload_n E dL_act_91 rfl 3 rfl ?_
        refine z_bipush (v := 10) E dL_act_92 (by decide) ?_
        refine z_icmp_ge (tgt := 133) E dL_act_94 (by decide) (fun c94 => ?_) (fun c94 => ?_)
        · skip
          refine z_iload_n E dL_act_133 rfl 3 rfl ?_
          refine z_bipush (v := 10) E dL_act_134 (by decide) ?_
          refine z_icmp_ne (tgt := 157) E dL_act_136 (by decide) (fun c136 => ?_) (fun c136 => ?_)
          · skip
            refine z_iload_n E dL_act_157 rfl 3 rfl ?_
            refine z_bipush (v := 13) E dL_act_158 (by decide) ?_
            refine z_icmp_ge (tgt := 215) E dL_act_160 (by decide) (fun c160 => ?_) (fun c160 => ?_)
            · skip
              refine z_iload_n E dL_act_215 rfl 3 rfl ?_
              refine z_bipush (v := 13) E dL_act_216 (by decide) ?_
              refine z_icmp_ne (tgt := 257) E dL_act_218 (by decide) (fun c218 => ?_) (fun c218 => ?_)
              · skip
                refine z_aload_n E dL_act_257 rfl 4 rfl ?_
                refine z_iconst (v := 2) E dL_act_258 (by decide) ?_
                refine z_iload E dL_act_259 1 rfl ?_
                refine z_iload E dL_act_261 2 rfl ?_
                refine z_iconst (v := 3) E dL_act_263 (by decide) ?_
                refine z_ishr E dL_act_264 ?_
                refine z_iload E dL_act_265 0 rfl ?_
                refine z_if_eq_f (tgt := 275) E dL_act_267 (by decide) (by decide) ?_
                refine z_bipush (v := 60) E dL_act_270 (by decide) ?_
                refine z_goto (tgt := 278) E dL_act_272 (by decide) ?_
                refine z_callSi E hZ (k_low l D cI cR cS cL (cw ad cI cR cS mem ++ [iE cI o f]) ((v >>> ((4 : Int32) &&& 31)) >>> ((3 : Int32) &&& 31)) 60 (by decide)) gL_act_L_low (n := 2) rfl rfl rfl (by decide +kernel) rfl ⟨(Nat.le_of_ble_eq_true rfl), (Nat.le_of_ble_eq_true rfl)⟩ (As := [.int ((v >>> ((4 : Int32) &&& 31)) >>> ((3 : Int32) &&& 31)), .int 60]) (rest := [.int (fLow (v >>> ((4 : Int32) &&& 31)) (if fLow (v >>> ((23 : Int32) &&& 31)) 6 = 0 then (5 : Int32) else 3)), .int 2, .ref (ad 106)]) rfl (Nat.le_of_ble_eq_true rfl) ⟨(Nat.le_of_ble_eq_true rfl), (Nat.le_of_ble_eq_true rfl)⟩ dL_act_278 (fun r u hp => ?_)
                rw [hp]
                refine z_iconst (v := 0) E dL_act_281 (by decide) ?_
                refine z_aload_n E dL_act_282 rfl 6 rfl ?_
                have e0 : zDec v = (2, fLow (v >>> ((4 : Int32) &&& 31)) (if fLow (v >>> ((23 : Int32) &&& 31)) 6 = 0 then (5 : Int32) else 3), fLow ((v >>> ((4 : Int32) &&& 31)) >>> ((3 : Int32) &&& 31)) 60, 0) := by unfold zDec zLadd; rw [if_pos c56, if_pos c94, if_neg c136, if_pos c160, if_neg c218, if_neg c44]
                refine z_callSW E hZ hN (w_rope l D ad cI cR cS cL mem hl o f (fLow (v >>> ((4 : Int32) &&& 31)) (if fLow (v >>> ((23 : Int32) &&& 31)) 6 = 0 then (5 : Int32) else 3)) (fLow ((v >>> ((4 : Int32) &&& 31)) >>> ((3 : Int32) &&& 31)) 60) 0 hq hn hz hs) gL_act_L_changes (n := 6) rfl rfl rfl (by decide +kernel) rfl ⟨(Nat.le_of_ble_eq_true rfl), (Nat.le_of_ble_eq_true rfl)⟩ (As := [.ref (ad 106), .int 2, .int (fLow (v >>> ((4 : Int32) &&& 31)) (if fLow (v >>> ((23 : Int32) &&& 31)) 6 = 0 then (5 : Int32) else 3)), .int (fLow ((v >>> ((4 : Int32) &&& 31)) >>> ((3 : Int32) &&& 31)) 60), .int 0, .ref o]) (rest := []) rfl (Nat.le_of_ble_eq_true rfl) ⟨(Nat.le_of_ble_eq_true rfl), (Nat.le_of_ble_eq_true rfl)⟩ dL_act_283 (fun r u hp => ?_)
                exact z_iretM E hr hlocks (u) rfl (by rw [e0, sCh_rope]; exact hp) (Nat.le_of_ble_eq_true rfl) (Nat.le_of_ble_eq_true rfl) dL_act_286
              · skip
                refine z_aload_n E dL_act_221 rfl 4 rfl ?_
                refine z_iconst (v := 1) E dL_act_222 (by decide) ?_
                refine z_iload E dL_act_223 1 rfl ?_
                refine z_iload E dL_act_225 2 rfl ?_
                refine z_iconst (v := 3) E dL_act_227 (by decide) ?_
                refine z_ishr E dL_act_228 ?_
                refine z_iload E dL_act_229 0 rfl ?_
                refine z_if_eq_f (tgt := 238) E dL_act_231 (by decide) (by decide) ?_
                refine z_iconst (v := 4) E dL_act_234 (by decide) ?_
                refine z_goto (tgt := 239) E dL_act_235 (by decide) ?_
                refine z_callSi E hZ (k_low l D cI cR cS cL (cw ad cI cR cS mem ++ [iE cI o f]) ((v >>> ((4 : Int32) &&& 31)) >>> ((3 : Int32) &&& 31)) 4 (by decide)) gL_act_L_low (n := 2) rfl rfl rfl (by decide +kernel) rfl ⟨(Nat.le_of_ble_eq_true rfl), (Nat.le_of_ble_eq_true rfl)⟩ (As := [.int ((v >>> ((4 : Int32) &&& 31)) >>> ((3 : Int32) &&& 31)), .int 4]) (rest := [.int (fLow (v >>> ((4 : Int32) &&& 31)) (if fLow (v >>> ((23 : Int32) &&& 31)) 6 = 0 then (5 : Int32) else 3)), .int 1, .ref (ad 106)]) rfl (Nat.le_of_ble_eq_true rfl) ⟨(Nat.le_of_ble_eq_true rfl), (Nat.le_of_ble_eq_true rfl)⟩ dL_act_239 (fun r u hp => ?_)
                rw [hp]
                refine z_iload E dL_act_242 2 rfl ?_
                refine z_iconst (v := 5) E dL_act_244 (by decide) ?_
                refine z_ishr E dL_act_245 ?_
                refine z_iconst (v := 4) E dL_act_246 (by decide) ?_
                refine z_callSi E hZ (k_low l D cI cR cS cL (cw ad cI cR cS mem ++ [iE cI o f]) ((v >>> ((4 : Int32) &&& 31)) >>> ((5 : Int32) &&& 31)) 4 (by decide)) gL_act_L_low (n := 2) rfl rfl rfl (by decide +kernel) rfl ⟨(Nat.le_of_ble_eq_true rfl), (Nat.le_of_ble_eq_true rfl)⟩ (As := [.int ((v >>> ((4 : Int32) &&& 31)) >>> ((5 : Int32) &&& 31)), .int 4]) (rest := [.int (fLow ((v >>> ((4 : Int32) &&& 31)) >>> ((3 : Int32) &&& 31)) 4), .int (fLow (v >>> ((4 : Int32) &&& 31)) (if fLow (v >>> ((23 : Int32) &&& 31)) 6 = 0 then (5 : Int32) else 3)), .int 1, .ref (ad 106)]) rfl (Nat.le_of_ble_eq_true rfl) ⟨(Nat.le_of_ble_eq_true rfl), (Nat.le_of_ble_eq_true rfl)⟩ dL_act_247 (fun r u hp => ?_)
                rw [hp]
                refine z_aload_n E dL_act_250 rfl 6 rfl ?_
                have e0 : zDec v = (1, fLow (v >>> ((4 : Int32) &&& 31)) (if fLow (v >>> ((23 : Int32) &&& 31)) 6 = 0 then (5 : Int32) else 3), fLow ((v >>> ((4 : Int32) &&& 31)) >>> ((3 : Int32) &&& 31)) 4, fLow ((v >>> ((4 : Int32) &&& 31)) >>> ((5 : Int32) &&& 31)) 4) := by unfold zDec zLadd; rw [if_pos c56, if_pos c94, if_neg c136, if_pos c160, if_pos c218, if_neg c44]
                refine z_callSW E hZ hN (w_kinds l D ad cI cR cS cL mem hl o f (fLow (v >>> ((4 : Int32) &&& 31)) (if fLow (v >>> ((23 : Int32) &&& 31)) 6 = 0 then (5 : Int32) else 3)) (fLow ((v >>> ((4 : Int32) &&& 31)) >>> ((3 : Int32) &&& 31)) 4) (fLow ((v >>> ((4 : Int32) &&& 31)) >>> ((5 : Int32) &&& 31)) 4) hq hn hz hs) gL_act_L_changes (n := 6) rfl rfl rfl (by decide +kernel) rfl ⟨(Nat.le_of_ble_eq_true rfl), (Nat.le_of_ble_eq_true rfl)⟩ (As := [.ref (ad 106), .int 1, .int (fLow (v >>> ((4 : Int32) &&& 31)) (if fLow (v >>> ((23 : Int32) &&& 31)) 6 = 0 then (5 : Int32) else 3)), .int (fLow ((v >>> ((4 : Int32) &&& 31)) >>> ((3 : Int32) &&& 31)) 4), .int (fLow ((v >>> ((4 : Int32) &&& 31)) >>> ((5 : Int32) &&& 31)) 4), .ref o]) (rest := []) rfl (Nat.le_of_ble_eq_true rfl) ⟨(Nat.le_of_ble_eq_true rfl), (Nat.le_of_ble_eq_true rfl)⟩ dL_act_251 (fun r u hp => ?_)
                refine z_goto (tgt := 286) E dL_act_254 (by decide) ?_
                exact z_iretM E hr hlocks (u) rfl (by rw [e0, sCh_kinds]; exact hp) (Nat.le_of_ble_eq_true rfl) (Nat.le_of_ble_eq_true rfl) dL_act_286
            · skip
              refine z_aload_n E dL_act_163 rfl 4 rfl ?_
              refine z_iconst (v := 0) E dL_act_164 (by decide) ?_
              refine z_iload E dL_act_165 1 rfl ?_
              refine z_iload E dL_act_167 0 rfl ?_
              refine z_if_eq_f (tgt := 177) E dL_act_169 (by decide) (by decide) ?_
              refine z_bipush (v := 10) E dL_act_172 (by decide) ?_
              refine z_goto (tgt := 178) E dL_act_174 (by decide) ?_
              refine z_iload E dL_act_178 2 rfl ?_
              refine z_iconst (v := 3) E dL_act_180 (by decide) ?_
              refine z_ishr E dL_act_181 ?_
              refine z_bipush (v := 91) E dL_act_182 (by decide) ?_
              refine z_callSi E hZ (k_low l D cI cR cS cL (cw ad cI cR cS mem ++ [iE cI o f]) ((v >>> ((4 : Int32) &&& 31)) >>> ((3 : Int32) &&& 31)) 91 (by decide)) gL_act_L_low (n := 2) rfl rfl rfl (by decide +kernel) rfl ⟨(Nat.le_of_ble_eq_true rfl), (Nat.le_of_ble_eq_true rfl)⟩ (As := [.int ((v >>> ((4 : Int32) &&& 31)) >>> ((3 : Int32) &&& 31)), .int 91]) (rest := [.int 10, .int (fLow (v >>> ((4 : Int32) &&& 31)) (if fLow (v >>> ((23 : Int32) &&& 31)) 6 = 0 then (5 : Int32) else 3)), .int 0, .ref (ad 106)]) rfl (Nat.le_of_ble_eq_true rfl) ⟨(Nat.le_of_ble_eq_true rfl), (Nat.le_of_ble_eq_true rfl)⟩ dL_act_184 (fun r u hp => ?_)
              rw [hp]
              refine z_iadd E dL_act_187 ?_
              refine z_iload E dL_act_188 0 rfl ?_
              refine z_if_eq_f (tgt := 198) E dL_act_190 (by decide) (by decide) ?_
              refine z_bipush (v := 50) E dL_act_193 (by decide) ?_
              refine z_goto (tgt := 199) E dL_act_195 (by decide) ?_
              refine z_iload E dL_act_199 2 rfl ?_
              refine z_iconst (v := 5) E dL_act_201 (by decide) ?_
              refine z_ishr E dL_act_202 ?_
              refine z_sipush (v := 251) E dL_act_203 (by decide) ?_
              refine z_callSi E hZ (k_low l D cI cR cS cL (cw ad cI cR cS mem ++ [iE cI o f]) ((v >>> ((4 : Int32) &&& 31)) >>> ((5 : Int32) &&& 31)) 251 (by decide)) gL_act_L_low (n := 2) rfl rfl rfl (by decide +kernel) rfl ⟨(Nat.le_of_ble_eq_true rfl), (Nat.le_of_ble_eq_true rfl)⟩ (As := [.int ((v >>> ((4 : Int32) &&& 31)) >>> ((5 : Int32) &&& 31)), .int 251]) (rest := [.int 50, .int (10 + (fLow ((v >>> ((4 : Int32) &&& 31)) >>> ((3 : Int32) &&& 31)) 91)), .int (fLow (v >>> ((4 : Int32) &&& 31)) (if fLow (v >>> ((23 : Int32) &&& 31)) 6 = 0 then (5 : Int32) else 3)), .int 0, .ref (ad 106)]) rfl (Nat.le_of_ble_eq_true rfl) ⟨(Nat.le_of_ble_eq_true rfl), (Nat.le_of_ble_eq_true rfl)⟩ dL_act_206 (fun r u hp => ?_)
              rw [hp]
              refine z_iadd E dL_act_209 ?_
              refine z_aload_n E dL_act_210 rfl 6 rfl ?_
              have e0 : zDec v = (0, fLow (v >>> ((4 : Int32) &&& 31)) (if fLow (v >>> ((23 : Int32) &&& 31)) 6 = 0 then (5 : Int32) else 3), 10 + (fLow ((v >>> ((4 : Int32) &&& 31)) >>> ((3 : Int32) &&& 31)) 91), 50 + (fLow ((v >>> ((4 : Int32) &&& 31)) >>> ((5 : Int32) &&& 31)) 251)) := by unfold zDec zLadd; rw [if_pos c56, if_pos c94, if_neg c136, if_neg c160, if_neg c44, if_neg c44]
              refine z_callSW E hZ hN (w_put l D ad cI cR cS cL mem hl o f (fLow (v >>> ((4 : Int32) &&& 31)) (if fLow (v >>> ((23 : Int32) &&& 31)) 6 = 0 then (5 : Int32) else 3)) (10 + (fLow ((v >>> ((4 : Int32) &&& 31)) >>> ((3 : Int32) &&& 31)) 91)) (50 + (fLow ((v >>> ((4 : Int32) &&& 31)) >>> ((5 : Int32) &&& 31)) 251)) hq hn hz hs) gL_act_L_changes (n := 6) rfl rfl rfl (by decide +kernel) rfl ⟨(Nat.le_of_ble_eq_true rfl), (Nat.le_of_ble_eq_true rfl)⟩ (As := [.ref (ad 106), .int 0, .int (fLow (v >>> ((4 : Int32) &&& 31)) (if fLow (v >>> ((23 : Int32) &&& 31)) 6 = 0 then (5 : Int32) else 3)), .int (10 + (fLow ((v >>> ((4 : Int32) &&& 31)) >>> ((3 : Int32) &&& 31)) 91)), .int (50 + (fLow ((v >>> ((4 : Int32) &&& 31)) >>> ((5 : Int32) &&& 31)) 251)), .ref o]) (rest := []) rfl (Nat.le_of_ble_eq_true rfl) ⟨(Nat.le_of_ble_eq_true rfl), (Nat.le_of_ble_eq_true rfl)⟩ dL_act_211 (fun r u hp => ?_)
              exact z_iretM E hr hlocks (u) rfl (by rw [e0, sCh_put]; exact hp) (Nat.le_of_ble_eq_true rfl) (Nat.le_of_ble_eq_true rfl) dL_act_214
          · skip
            refine z_aload_n E dL_act_139 rfl 4 rfl ?_
            refine z_iconst (v := 4) E dL_act_140 (by decide) ?_
            refine z_iload E dL_act_141 1 rfl ?_
            refine z_iload E dL_act_143 2 rfl ?_
            refine z_iconst (v := 3) E dL_act_145 (by decide) ?_
            refine z_ishr E dL_act_146 ?_
            refine z_iconst (v := 3) E dL_act_147 (by decide) ?_
            refine z_callSi E hZ (k_low l D cI cR cS cL (cw ad cI cR cS mem ++ [iE cI o f]) ((v >>> ((4 : Int32) &&& 31)) >>> ((3 : Int32) &&& 31)) 3 (by decide)) gL_act_L_low (n := 2) rfl rfl rfl (by decide +kernel) rfl ⟨(Nat.le_of_ble_eq_true rfl), (Nat.le_of_ble_eq_true rfl)⟩ (As := [.int ((v >>> ((4 : Int32) &&& 31)) >>> ((3 : Int32) &&& 31)), .int 3]) (rest := [.int (fLow (v >>> ((4 : Int32) &&& 31)) (if fLow (v >>> ((23 : Int32) &&& 31)) 6 = 0 then (5 : Int32) else 3)), .int 4, .ref (ad 106)]) rfl (Nat.le_of_ble_eq_true rfl) ⟨(Nat.le_of_ble_eq_true rfl), (Nat.le_of_ble_eq_true rfl)⟩ dL_act_148 (fun r u hp => ?_)
            rw [hp]
            refine z_iconst (v := 0) E dL_act_151 (by decide) ?_
            refine z_aload_n E dL_act_152 rfl 6 rfl ?_
            have e0 : zDec v = (4, fLow (v >>> ((4 : Int32) &&& 31)) (if fLow (v >>> ((23 : Int32) &&& 31)) 6 = 0 then (5 : Int32) else 3), fLow ((v >>> ((4 : Int32) &&& 31)) >>> ((3 : Int32) &&& 31)) 3, 0) := by unfold zDec zLadd; rw [if_pos c56, if_pos c94, if_pos c136]
            refine z_callSW E hZ hN (w_off l D ad cI cR cS cL mem hl o f (fLow (v >>> ((4 : Int32) &&& 31)) (if fLow (v >>> ((23 : Int32) &&& 31)) 6 = 0 then (5 : Int32) else 3)) (fLow ((v >>> ((4 : Int32) &&& 31)) >>> ((3 : Int32) &&& 31)) 3) 0 hq hn hz hs) gL_act_L_changes (n := 6) rfl rfl rfl (by decide +kernel) rfl ⟨(Nat.le_of_ble_eq_true rfl), (Nat.le_of_ble_eq_true rfl)⟩ (As := [.ref (ad 106), .int 4, .int (fLow (v >>> ((4 : Int32) &&& 31)) (if fLow (v >>> ((23 : Int32) &&& 31)) 6 = 0 then (5 : Int32) else 3)), .int (fLow ((v >>> ((4 : Int32) &&& 31)) >>> ((3 : Int32) &&& 31)) 3), .int 0, .ref o]) (rest := []) rfl (Nat.le_of_ble_eq_true rfl) ⟨(Nat.le_of_ble_eq_true rfl), (Nat.le_of_ble_eq_true rfl)⟩ dL_act_153 (fun r u hp => ?_)
            exact z_iretM E hr hlocks (u) rfl (by rw [e0, sCh_off]; exact hp) (Nat.le_of_ble_eq_true rfl) (Nat.le_of_ble_eq_true rfl) dL_act_156
        · skip
          refine z_aload_n E dL_act_97 rfl 4 rfl ?_
          refine z_iconst (v := 5) E dL_act_98 (by decide) ?_
          refine z_iload E dL_act_99 1 rfl ?_
          refine z_iload E dL_act_101 2 rfl ?_
          refine z_iconst (v := 3) E dL_act_103 (by decide) ?_
          refine z_ishr E dL_act_104 ?_
          refine z_iload E dL_act_105 0 rfl ?_
          refine z_if_eq_f (tgt := 115) E dL_act_107 (by decide) (by decide) ?_
          refine z_bipush (v := 11) E dL_act_110 (by decide) ?_
          refine z_goto (tgt := 117) E dL_act_112 (by decide) ?_
          refine z_callSi E hZ (k_low l D cI cR cS cL (cw ad cI cR cS mem ++ [iE cI o f]) ((v >>> ((4 : Int32) &&& 31)) >>> ((3 : Int32) &&& 31)) 11 (by decide)) gL_act_L_low (n := 2) rfl rfl rfl (by decide +kernel) rfl ⟨(Nat.le_of_ble_eq_true rfl), (Nat.le_of_ble_eq_true rfl)⟩ (As := [.int ((v >>> ((4 : Int32) &&& 31)) >>> ((3 : Int32) &&& 31)), .int 11]) (rest := [.int (fLow (v >>> ((4 : Int32) &&& 31)) (if fLow (v >>> ((23 : Int32) &&& 31)) 6 = 0 then (5 : Int32) else 3)), .int 5, .ref (ad 106)]) rfl (Nat.le_of_ble_eq_true rfl) ⟨(Nat.le_of_ble_eq_true rfl), (Nat.le_of_ble_eq_true rfl)⟩ dL_act_117 (fun r u hp => ?_)
          rw [hp]
          refine z_iload E dL_act_120 2 rfl ?_
          refine z_iconst (v := 5) E dL_act_122 (by decide) ?_
          refine z_ishr E dL_act_123 ?_
          refine z_iconst (v := 3) E dL_act_124 (by decide) ?_
          refine z_callSi E hZ (k_low l D cI cR cS cL (cw ad cI cR cS mem ++ [iE cI o f]) ((v >>> ((4 : Int32) &&& 31)) >>> ((5 : Int32) &&& 31)) 3 (by decide)) gL_act_L_low (n := 2) rfl rfl rfl (by decide +kernel) rfl ⟨(Nat.le_of_ble_eq_true rfl), (Nat.le_of_ble_eq_true rfl)⟩ (As := [.int ((v >>> ((4 : Int32) &&& 31)) >>> ((5 : Int32) &&& 31)), .int 3]) (rest := [.int (fLow ((v >>> ((4 : Int32) &&& 31)) >>> ((3 : Int32) &&& 31)) 11), .int (fLow (v >>> ((4 : Int32) &&& 31)) (if fLow (v >>> ((23 : Int32) &&& 31)) 6 = 0 then (5 : Int32) else 3)), .int 5, .ref (ad 106)]) rfl (Nat.le_of_ble_eq_true rfl) ⟨(Nat.le_of_ble_eq_true rfl), (Nat.le_of_ble_eq_true rfl)⟩ dL_act_125 (fun r u hp => ?_)
          rw [hp]
          refine z_aload_n E dL_act_128 rfl 6 rfl ?_
          have e0 : zDec v = (5, fLow (v >>> ((4 : Int32) &&& 31)) (if fLow (v >>> ((23 : Int32) &&& 31)) 6 = 0 then (5 : Int32) else 3), fLow ((v >>> ((4 : Int32) &&& 31)) >>> ((3 : Int32) &&& 31)) 11, fLow ((v >>> ((4 : Int32) &&& 31)) >>> ((5 : Int32) &&& 31)) 3) := by unfold zDec zLadd; rw [if_pos c56, if_neg c94, if_neg c44]
          refine z_callSW E hZ hN (w_climb l D ad cI cR cS cL mem hl o f (fLow (v >>> ((4 : Int32) &&& 31)) (if fLow (v >>> ((23 : Int32) &&& 31)) 6 = 0 then (5 : Int32) else 3)) (fLow ((v >>> ((4 : Int32) &&& 31)) >>> ((3 : Int32) &&& 31)) 11) (fLow ((v >>> ((4 : Int32) &&& 31)) >>> ((5 : Int32) &&& 31)) 3) hq hn hz hs hA) gL_act_L_changes (n := 6) rfl rfl rfl (by decide +kernel) rfl ⟨(Nat.le_of_ble_eq_true rfl), (Nat.le_of_ble_eq_true rfl)⟩ (As := [.ref (ad 106), .int 5, .int (fLow (v >>> ((4 : Int32) &&& 31)) (if fLow (v >>> ((23 : Int32) &&& 31)) 6 = 0 then (5 : Int32) else 3)), .int (fLow ((v >>> ((4 : Int32) &&& 31)) >>> ((3 : Int32) &&& 31)) 11), .int (fLow ((v >>> ((4 : Int32) &&& 31)) >>> ((5 : Int32) &&& 31)) 3), .ref o]) (rest := []) rfl (Nat.le_of_ble_eq_true rfl) ⟨(Nat.le_of_ble_eq_true rfl), (Nat.le_of_ble_eq_true rfl)⟩ dL_act_129 (fun r u hp => ?_)
          exact z_iretM E hr hlocks (u) rfl (by rw [e0, sCh_climb]; exact hp) (Nat.le_of_ble_eq_true rfl) (Nat.le_of_ble_eq_true rfl) dL_act_132
      · skip
        refine z_aload_n E dL_act_59 rfl 4 rfl ?_
        refine z_iconst (v := 3) E dL_act_60 (by decide) ?_
        refine z_iload E dL_act_61 1 rfl ?_
        refine z_iload E dL_act_63 0 rfl ?_
        refine z_if_eq_f (tgt := 73) E dL_act_65 (by decide) (by decide) ?_
        refine z_bipush (v := 20) E dL_act_68 (by decide) ?_
        refine z_goto (tgt := 74) E dL_act_70 (by decide) ?_
        refine z_iload E dL_act_74 2 rfl ?_
        refine z_iconst (v := 3) E dL_act_76 (by decide) ?_
        refine z_ishr E dL_act_77 ?_
        refine z_sipush (v := 131) E dL_act_78 (by decide) ?_
        refine z_callSi E hZ (k_low l D cI cR cS cL (cw ad cI cR cS mem ++ [iE cI o f]) ((v >>> ((4 : Int32) &&& 31)) >>> ((3 : Int32) &&& 31)) 131 (by decide)) gL_act_L_low (n := 2) rfl rfl rfl (by decide +kernel) rfl ⟨(Nat.le_of_ble_eq_true rfl), (Nat.le_of_ble_eq_true rfl)⟩ (As := [.int ((v >>> ((4 : Int32) &&& 31)) >>> ((3 : Int32) &&& 31)), .int 131]) (rest := [.int 20, .int (fLow (v >>> ((4 : Int32) &&& 31)) (if fLow (v >>> ((23 : Int32) &&& 31)) 6 = 0 then (5 : Int32) else 3)), .int 3, .ref (ad 106)]) rfl (Nat.le_of_ble_eq_true rfl) ⟨(Nat.le_of_ble_eq_true rfl), (Nat.le_of_ble_eq_true rfl)⟩ dL_act_81 (fun r u hp => ?_)
        rw [hp]
        refine z_iadd E dL_act_84 ?_
        refine z_iconst (v := 0) E dL_act_85 (by decide) ?_
        refine z_aload_n E dL_act_86 rfl 6 rfl ?_
        have e0 : zDec v = (3, fLow (v >>> ((4 : Int32) &&& 31)) (if fLow (v >>> ((23 : Int32) &&& 31)) 6 = 0 then (5 : Int32) else 3), 20 + (fLow ((v >>> ((4 : Int32) &&& 31)) >>> ((3 : Int32) &&& 31)) 131), 0) := by unfold zDec zLadd; rw [if_neg c56, if_neg c44]
        refine z_callSW E hZ hN (w_on l D ad cI cR cS cL mem hl o f (fLow (v >>> ((4 : Int32) &&& 31)) (if fLow (v >>> ((23 : Int32) &&& 31)) 6 = 0 then (5 : Int32) else 3)) (20 + (fLow ((v >>> ((4 : Int32) &&& 31)) >>> ((3 : Int32) &&& 31)) 131)) 0 hq hn hz hs) gL_act_L_changes (n := 6) rfl rfl rfl (by decide +kernel) rfl ⟨(Nat.le_of_ble_eq_true rfl), (Nat.le_of_ble_eq_true rfl)⟩ (As := [.ref (ad 106), .int 3, .int (fLow (v >>> ((4 : Int32) &&& 31)) (if fLow (v >>> ((23 : Int32) &&& 31)) 6 = 0 then (5 : Int32) else 3)), .int (20 + (fLow ((v >>> ((4 : Int32) &&& 31)) >>> ((3 : Int32) &&& 31)) 131)), .int 0, .ref o]) (rest := []) rfl (Nat.le_of_ble_eq_true rfl) ⟨(Nat.le_of_ble_eq_true rfl), (Nat.le_of_ble_eq_true rfl)⟩ dL_act_87 (fun r u hp => ?_)
        exact z_iretM E hr hlocks (u) rfl (by rw [e0, sCh_on]; exact hp) (Nat.le_of_ble_eq_true rfl) (Nat.le_of_ble_eq_true rfl) dL_act_90
  · skip
    refine z_if_ne (tgt := 30) E dL_act_23 (by decide) (fun c23 => ?_) (fun c23 => ?_)
    · skip
      refine z_iconst (v := 3) E dL_act_30 (by decide) ?_
      exact J31 _ (if_neg c23).symm
    · skip
      refine z_iconst (v := 5) E dL_act_26 (by decide) ?_
      refine z_goto (tgt := 31) E dL_act_27 (by decide) ?_
      exact J31 _ (if_pos c23).symm
