/-! the law's loop -/
section ZSW
variable {p : Program} {l : Launch} {e : Env} {R : Room} {s : State} {m : MethodId} {args : Array Value} {below : List Frame} {meth : Method} {c : Code} {D : va_G} {A : Nat → Prop} {Q : State → Prop} {nL : Nat} {cells slots pc : Nat} {lv : List (Nat × Value)} {rest : List Value}
theorem z_swap {a b x : va_W} (k : zW p l e R s m args below meth c D A Q nL (b ++ (a ++ x)) cells slots pc lv rest) : zW p l e R s m args below meth c D A Q nL (a ++ (b ++ x)) cells slots pc lv rest := fun H locs ls hP hD hS hl => by
  rw [← List.append_assoc] at hP hD
  refine k H locs ls ((vP_R (vP_L hP)).app ((vP_L (vP_L hP)).app (vP_R hP))) ?_ hS hl
  have x := vD_X hD
  have xab := vD_X (vD_L hD)
  refine va_D.app (vD_R (vD_L hD)) (va_D.app (vD_L (vD_L hD)) (vD_R hD) (fun i j p q hi hj => x i j p q (by rw [List.getElem?_append_left (List.getElem?_eq_some_iff.mp hi).1]; exact hi) hj)) (fun i j p q hi hj hpq => ?_)
  by_cases hlt : j < a.length
  · rw [List.getElem?_append_left hlt] at hj
    exact xab j i q p hj hi hpq.symm
  · rw [List.getElem?_append_right (by omega)] at hj
    exact x (a.length + i) (j - a.length) p q (by rw [List.getElem?_append_right (by omega), show a.length + i - a.length = i by omega]; exact hi) hj hpq
theorem z_swap3 {a b c1 : va_W} (k : zW p l e R s m args below meth c D A Q nL (b ++ (a ++ c1)) cells slots pc lv rest) : zW p l e R s m args below meth c D A Q nL ((a ++ b) ++ c1) cells slots pc lv rest := by
  rw [List.append_assoc]
  exact z_swap k
end ZSW
theorem zMi.frL {l : Launch} {y : MethodName} {wl : List Cond} {rm : Room} {D : va_G} {tys : List (ClassId × FieldType)} {av : List Value} {wc : va_W} {mc ms : Nat} {S : Type} {out : S → va_W} {post : Int32 → S → Prop} (h : zMi l y wl rm D tys av wc post out mc ms) (w2 : va_W) : zMi l y wl rm D tys av (wc ++ w2) post (fun u => out u ++ w2) mc ms := h.fr [] w2
theorem pWr_thrown {S : zO} {E : String} {m : zM} {r : Int32} {u : zM} {f : Nat → Int32} (h : pWr S r (u, f)) (e : S = (.inl E, m)) : r = cdX E ∧ u = m := by
  rcases h with ⟨E', e1, e2⟩ | ⟨v, e1, -, -⟩
  · rw [e1] at e; cases e; exact ⟨e2, rfl⟩
  · rw [e1] at e; cases e
theorem pWr_done {S : zO} {v : Int32} {m : zM} {r : Int32} {u : zM} {f : Nat → Int32} (h : pWr S r (u, f)) (e : S = (.inr v, m)) : r = 0 ∧ u = m ∧ f 0 = v := by
  rcases h with ⟨E', e1, -⟩ | ⟨v', e1, e2, e3⟩
  · rw [e1] at e; cases e
  · rw [e1] at e; cases e; exact ⟨e2, rfl, e3⟩
theorem cdX_ne (E : String) : ¬ cdX E = 0 := by
  unfold cdX
  split
  · decide
  · split <;> decide
/-- the saved states, one more -/
def nz (z : Nat) : Nat := if z < 6 then z + 1 else 6
theorem hist_on {m u : zM} {q z : Nat} (hq : q < 6) (hz : z ≤ 6) (h : zKp (sSave m q z) u) : nx q < 6 ∧ u 101 1 = nI (nx q) ∧ nz z ≤ 6 ∧ u 101 2 = nI (nz z) := by
  have e := h 101 (by omega) (by omega)
  refine ⟨by unfold nx; split <;> omega, ?_, by unfold nz; split <;> omega, ?_⟩
  · rw [e, sSv_101.1]; unfold nx; split <;> rfl
  · rw [e, sSv_101.2]; unfold nz; split <;> rfl
theorem undo_of {m : zM} {q z : Nat} (hq : q < 6) (hz : z ≤ 6) (hs : m 101 2 = nI (nz z)) : sUndo m (nx q) (nz z) = (.inr (nI (if z = 6 then 5 else z)), sRest m q (nz z)) ∧ sRest m q (nz z) 101 1 = nI q ∧ sRest m q (nz z) 101 2 = nI (if z = 6 then 5 else z) := by
  have e2 : sRest m q (nz z) 101 2 = nI (if z = 6 then 5 else z) := by
    unfold sRest
    rw [mset_at]
    unfold nz
    by_cases h : z < 6
    · rw [if_pos h, if_neg (by omega), nI_pred]
    · rw [if_neg h, if_pos (by omega)]; rfl
  refine ⟨?_, ?_, e2⟩
  · unfold sUndo
    rw [if_neg (by rw [hs]; intro h; have := (nI_eq (a := nz z) (b := 0) (by unfold nz; split <;> omega) (by omega)).mp h; unfold nz at this; split at this <;> omega), latest_nx hq, e2]
  · unfold sRest
    rw [mset_ne2 _ _ (by decide), mset_at]
theorem nz_back {z : Nat} (hz : z ≤ 6) : nz (if z = 6 then 5 else z) = nz z := by
  unfold nz
  by_cases h : z = 6
  · subst h; rfl
  · rw [if_neg h]
theorem fLow_in {v : Int32} {n : Nat} (h0 : 0 < n) (hn : n < 1000) : ∃ k, k < n ∧ fLow v (nI n) = nI k := by
  obtain ⟨x, hx⟩ : ∃ x : Int32, x = v &&& 2147483647 := ⟨_, rfl⟩
  have hx0 : 0 ≤ x.toInt := by
    obtain ⟨j, hj, e⟩ := pk_andE v (m := 2147483647) 31 (by decide)
    have e' : x = nI j := hx.trans e
    rw [e', nI_toInt (by omega)]
    omega
  have hx1 := x.toInt_lt
  have en := zL (n := n) (by omega)
  have hd : (x / nI n).toInt = x.toInt / n := by
    rw [Int32.toInt_div_of_ne_right _ _ (fun h => by rw [h] at en; have : (-1 : Int32).toInt = -1 := by decide
                                                     omega), en, Int.tdiv_eq_ediv_of_nonneg hx0]
  have q0 := Int.ediv_nonneg hx0 (show (0 : Int) ≤ n by omega)
  have q1 := Int.mul_ediv_add_emod x.toInt n
  have q2 := Int.emod_nonneg x.toInt (show (n : Int) ≠ 0 by omega)
  have q3 := Int.emod_lt_of_pos x.toInt (show (0 : Int) < n by omega)
  have q4 : x.toInt / n * n = x.toInt - x.toInt % n := by rw [Int.mul_comm]; omega
  have e1 : (x / nI n * nI n).toInt = x.toInt / n * n := zmI hd en (by omega) (by omega)
  have e2 : (x - x / nI n * nI n).toInt = x.toInt - x.toInt / n * n := zsI rfl e1 (by omega) (by omega)
  refine ⟨(x.toInt % n).toNat, by omega, ?_⟩
  unfold fLow
  rw [← hx]
  refine Int32.toInt_inj.mp ?_
  rw [e2, zL (by omega)]
  omega
section ZLO
variable {p : Program} {l : Launch} {e : Env} {s : State} {m : MethodId} {args : Array Value} {below : List Frame} {meth : Method} {c : Code} {D : va_G} {A : Nat → Prop} {Q : State → Prop} {ad ap : Nat → Nat} {cI cR cS cL : ClassId} {o b Ls : Nat} {xs : Nat → Int32}
set_option maxHeartbeats 8000000 in
set_option maxRecDepth 100000 in
theorem law_186 (hl : l.stackTraces = false) (E : zE p s m args c D (cK cI cR cS cL) A 10 cL_law RL wsL_law) (hZ : zSK A s s.heap) (hN : zNC s) {t : Nat} (ht : t < 44) (v : Int32) (cm pm : zM) (f : Nat → Int32) (hin : zIN (3 * t + 3) cm) (K : ∀ u : zM, zTr cm u → zW p l e room_1 s m args below meth c D A Q 10 (cw ad cI cR cS u ++ (cw ap cI cR cS pm ++ [iE cI o f])) (215 + 3 * (t + 1)) (1193 + 18 * (t + 1)) 23 [(4, .int (nI (t + 1))), (0, .ref b), (1, .ref (ad 106)), (2, .ref (ap 106)), (3, .ref o)] []) : zW p l e room_1 s m args below meth c D A Q 10 (cw ad cI cR cS cm ++ (cw ap cI cR cS pm ++ [iE cI o f])) (215 + 3 * t + 3) (1193 + 18 * t + 18) 186 [(4, .int (nI t)), (5, .int v), (0, .ref b), (1, .ref (ad 106)), (2, .ref (ap 106)), (3, .ref o)] [] := by
  have next : ∀ u : zM, zTr cm u → zW p l e room_1 s m args below meth c D A Q 10 (cw ad cI cR cS u ++ (cw ap cI cR cS pm ++ [iE cI o f])) (215 + 3 * t + 3) (1193 + 18 * t + 18) 234 [(4, .int (nI t)), (5, .int v), (0, .ref b), (1, .ref (ad 106)), (2, .ref (ap 106)), (3, .ref o)] [] := by
    intro u hu
    refine z_lv [0, 2, 3, 4, 5] (lv' := [(4, .int (nI t)), (0, .ref b), (1, .ref (ad 106)), (2, .ref (ap 106)), (3, .ref o)]) rfl ?_
    refine z_iinc (v := nI (t + 1)) (lv' := [(4, .int (nI (t + 1))), (0, .ref b), (1, .ref (ad 106)), (2, .ref (ap 106)), (3, .ref o)]) E dL_law_234 (q := 0) rfl (by rw [show Int32.ofInt 1 = nI 1 by decide, nI_add]) (by decide) rfl ?_
    refine z_goto (tgt := 23) E dL_law_237 (by decide) ?_
    refine z_cs (k := 215 + 3 * (t + 1)) (n := 1193 + 18 * (t + 1)) (by omega) (by omega) ?_
    exact K u hu
  refine z_iload E dL_law_186 0 rfl ?_
  refine z_iconst (v := 4) E dL_law_188 (by decide) ?_
  refine z_irem E dL_law_189 (by decide) ?_
  refine z_iconst (v := 3) E dL_law_190 (by decide) ?_
  refine z_icmp_ne (tgt := 234) E dL_law_191 (by decide) (fun c191 => ?_) (fun c191 => ?_)
  · exact next cm zTr.rfl'
  · skip
    refine z_aload_n E dL_law_194 rfl 3 rfl ?_
    refine z_callSi E hZ ((k_sums l D ad cI cR cS cL cm hl hin (by omega)).frL (cw ap cI cR cS pm ++ [iE cI o f])) gL_law_L_areSums (n := 1) rfl rfl rfl (by decide +kernel) rfl ⟨(Nat.le_of_ble_eq_true rfl), (Nat.le_of_ble_eq_true rfl)⟩ (As := [.ref (ad 106)]) (rest := []) rfl (Nat.le_of_ble_eq_true rfl) ⟨by show 215 + 3 * t + 3 + 0 ≤ 674598; omega, by show 1193 + 18 * t + 18 + 0 ≤ 7077831; omega⟩ dL_law_195 (fun r u hp => ?_)
    rw [hp]
    refine z_cs (k := 215 + 3 * t + 3) (n := 1193 + 18 * t + 18) rfl rfl ?_
    refine z_if_eq_f (tgt := 232) E dL_law_198 (by decide) (by decide) ?_
    refine z_aload_n E dL_law_201 rfl 3 rfl ?_
    refine z_iload E dL_law_202 1 rfl ?_
    refine z_iconst (v := 4) E dL_law_204 (by decide) ?_
    refine z_ishr E dL_law_205 ?_
    refine z_iconst (v := 3) E dL_law_206 (by decide) ?_
    refine z_callSi E hZ (k_low l D cI cR cS cL (cw ad cI cR cS cm ++ (cw ap cI cR cS pm ++ [iE cI o f])) (v >>> ((4 : Int32) &&& 31)) 3 (by decide)) gL_law_L_low (n := 2) rfl rfl rfl (by decide +kernel) rfl ⟨(Nat.le_of_ble_eq_true rfl), (Nat.le_of_ble_eq_true rfl)⟩ (As := [.int (v >>> ((4 : Int32) &&& 31)), .int 3]) (rest := [.ref (ad 106)]) rfl (Nat.le_of_ble_eq_true rfl) ⟨by show 215 + 3 * t + 3 + 0 ≤ 674598; omega, by show 1193 + 18 * t + 18 + 0 ≤ 7077831; omega⟩ dL_law_207 (fun r u hp => ?_)
    obtain ⟨k1, hk1, ekk1⟩ := fLow_in (v := v >>> ((4 : Int32) &&& 31)) (n := 3) (by omega) (by omega)
    rw [hp, show fLow (v >>> ((4 : Int32) &&& 31)) 3 = nI k1 from ekk1]
    refine z_cs (k := 215 + 3 * t + 3) (n := 1193 + 18 * t + 18) rfl rfl ?_
    refine z_callSi E hZ ((k_ladderSo l D ad cI cR cS cL cm hl (show k1 < 4 by omega) hin.1 (hin.2.1 k1 (by omega))).frL (cw ap cI cR cS pm ++ [iE cI o f])) gL_law_L_isLadderSo (n := 2) rfl rfl rfl (by decide +kernel) rfl ⟨(Nat.le_of_ble_eq_true rfl), (Nat.le_of_ble_eq_true rfl)⟩ (As := [.ref (ad 106), .int (nI k1)]) (rest := []) rfl (Nat.le_of_ble_eq_true rfl) ⟨by show 215 + 3 * t + 3 + 0 ≤ 674598; omega, by show 1193 + 18 * t + 18 + 0 ≤ 7077831; omega⟩ dL_law_210 (fun r u hp => ?_)
    rw [hp]
    refine z_cs (k := 215 + 3 * t + 3) (n := 1193 + 18 * t + 18) rfl rfl ?_
    refine z_if_eq_f (tgt := 232) E dL_law_213 (by decide) (by decide) ?_
    refine z_aload_n E dL_law_216 rfl 3 rfl ?_
    refine z_iload E dL_law_217 1 rfl ?_
    refine z_bipush (v := 6) E dL_law_219 (by decide) ?_
    refine z_ishr E dL_law_221 ?_
    refine z_iconst (v := 3) E dL_law_222 (by decide) ?_
    refine z_callSi E hZ (k_low l D cI cR cS cL (cw ad cI cR cS cm ++ (cw ap cI cR cS pm ++ [iE cI o f])) (v >>> ((6 : Int32) &&& 31)) 3 (by decide)) gL_law_L_low (n := 2) rfl rfl rfl (by decide +kernel) rfl ⟨(Nat.le_of_ble_eq_true rfl), (Nat.le_of_ble_eq_true rfl)⟩ (As := [.int (v >>> ((6 : Int32) &&& 31)), .int 3]) (rest := [.ref (ad 106)]) rfl (Nat.le_of_ble_eq_true rfl) ⟨by show 215 + 3 * t + 3 + 0 ≤ 674598; omega, by show 1193 + 18 * t + 18 + 0 ≤ 7077831; omega⟩ dL_law_223 (fun r u hp => ?_)
    obtain ⟨k2, hk2, ekk2⟩ := fLow_in (v := v >>> ((6 : Int32) &&& 31)) (n := 3) (by omega) (by omega)
    rw [hp, show fLow (v >>> ((6 : Int32) &&& 31)) 3 = nI k2 from ekk2]
    refine z_cs (k := 215 + 3 * t + 3) (n := 1193 + 18 * t + 18) rfl rfl ?_
    refine z_callSi E hZ ((k_trialsSo l D ad cI cR cS cL cm hl (show k2 < 4 by omega) hin.1).frL (cw ap cI cR cS pm ++ [iE cI o f])) gL_law_L_areTrialsSo (n := 2) rfl rfl rfl (by decide +kernel) rfl ⟨(Nat.le_of_ble_eq_true rfl), (Nat.le_of_ble_eq_true rfl)⟩ (As := [.ref (ad 106), .int (nI k2)]) (rest := []) rfl (Nat.le_of_ble_eq_true rfl) ⟨by show 215 + 3 * t + 3 + 0 ≤ 674598; omega, by show 1193 + 18 * t + 18 + 0 ≤ 7077831; omega⟩ dL_law_226 (fun r u hp => ?_)
    rw [hp.1]
    refine z_cs (k := 215 + 3 * t + 3) (n := 1193 + 18 * t + 18) rfl rfl ?_
    refine z_if_ne_t (tgt := 234) E dL_law_229 (by decide) (by decide) ?_
    exact next u hp.2
set_option maxHeartbeats 8000000 in
set_option maxRecDepth 100000 in
theorem law_151 (hl : l.stackTraces = false) (E : zE p s m args c D (cK cI cR cS cL) A 10 cL_law RL wsL_law) (hZ : zSK A s s.heap) (hN : zNC s) {t : Nat} (ht : t < 44) {v r0 : Int32} {cm pm p1 : zM} {f : Nat → Int32} {q2 z2 : Nat} (h2 : q2 < 6 ∧ pm 101 1 = nI q2 ∧ z2 ≤ 6 ∧ pm 101 2 = nI z2) (hok2 : zOK pm) (eT : sCh (zDec v) pm q2 z2 = (.inr r0, p1)) (hSE : zSE cm p1) (hok : zOK cm) (K : ∀ f2 : Nat → Int32, zW p l e room_1 s m args below meth c D A Q 10 (cw ad cI cR cS cm ++ (cw ap cI cR cS p1 ++ [iE cI o f2])) (215 + 3 * t + 3) (1193 + 18 * t + 18) 186 [(4, .int (nI t)), (5, .int v), (0, .ref b), (1, .ref (ad 106)), (2, .ref (ap 106)), (3, .ref o)] []) : zW p l e room_1 s m args below meth c D A Q 10 (cw ad cI cR cS cm ++ (cw ap cI cR cS pm ++ [iE cI o f])) (215 + 3 * t + 2) (1193 + 18 * t + 12) 151 [(5, .int v), (7, .int 0), (8, .int r0), (4, .int (nI t)), (0, .ref b), (1, .ref (ad 106)), (2, .ref (ap 106)), (3, .ref o)] [] := by
  refine z_aload_n E dL_law_151 rfl 6 rfl ?_
  refine z_iload E dL_law_152 0 rfl ?_
  refine z_aload_n E dL_law_154 rfl 7 rfl ?_
  refine z_callSN E hZ hN ((k_act l D ap cI cR cS cL pm hl o f v h2.1 h2.2.1 h2.2.2.1 h2.2.2.2 hok2.hA).frR (cw ad cI cR cS cm)) gL_law_L_act (n := 3) rfl rfl rfl (by decide +kernel) rfl ⟨(Nat.le_of_ble_eq_true rfl), (Nat.le_of_ble_eq_true rfl)⟩ (As := [.ref (ap 106), .int v, .ref o]) (rest := []) rfl (Nat.le_of_ble_eq_true rfl) ⟨by show 215 + 3 * t + 2 + 1 ≤ 674598; omega, by show 1193 + 18 * t + 12 + 6 ≤ 7077831; omega⟩ dL_law_155 (fun r u hp => ?_)
  obtain ⟨u1, f1⟩ := u
  refine z_eq (ws' := cw ad cI cR cS cm ++ (cw ap cI cR cS u1 ++ [iE cI o f1])) (lv' := [(5, .int v), (7, .int 0), (8, .int r0), (4, .int (nI t)), (0, .ref b), (1, .ref (ad 106)), (2, .ref (ap 106)), (3, .ref o)]) (st' := [.int r]) rfl rfl rfl ?_
  refine z_cs (k := 215 + 3 * t + 2 + 1) (n := 1193 + 18 * t + 12 + 6) rfl rfl ?_
  obtain ⟨rfl, rfl, ef⟩ := pWr_done hp eT
  refine z_iload E dL_law_158 1 rfl ?_
  refine z_icmp_ne_f (tgt := 184) E dL_law_160 (by decide) rfl ?_
  refine z_iload E dL_law_163 1 rfl ?_
  refine z_if_ne_f (tgt := 176) E dL_law_165 (by decide) rfl ?_
  refine z_aload_n E dL_law_168 rfl 7 rfl ?_
  refine z_iconst (v := 0) E dL_law_169 (by decide) ?_
  refine z_iald E 214 0 (ow_at2 (x := iE cI o f1)) rfl (zvin rfl) (v := f1 0) rfl dL_law_170 ?_
  refine z_iload E dL_law_171 2 rfl ?_
  refine z_icmp_ne_f (tgt := 184) E dL_law_173 (by decide) ef ?_
  refine z_aload_n E dL_law_176 rfl 5 rfl ?_
  refine z_aload_n E dL_law_177 rfl 6 rfl ?_
  refine z_eq (ws' := (cw ad cI cR cS cm ++ cw ap cI cR cS u1) ++ [iE cI o f1]) (lv' := [(5, .int v), (7, .int 0), (8, .int r0), (4, .int (nI t)), (0, .ref b), (1, .ref (ad 106)), (2, .ref (ap 106)), (3, .ref o)]) (st' := [.ref (ap 106), .ref (ad 106)]) (List.append_assoc _ _ _).symm rfl rfl ?_
  refine z_callSi E hZ ((k_alike l D ad ap cI cR cS cL cm u1 hl hSE hok).frL [iE cI o f1]) gL_law_L_areAlike (n := 2) rfl rfl rfl (by decide +kernel) rfl ⟨(Nat.le_of_ble_eq_true rfl), (Nat.le_of_ble_eq_true rfl)⟩ (As := [.ref (ad 106), .ref (ap 106)]) (rest := []) rfl (Nat.le_of_ble_eq_true rfl) ⟨by show 215 + 3 * t + 2 + 1 + 0 ≤ 674598; omega, by show 1193 + 18 * t + 12 + 6 + 0 ≤ 7077831; omega⟩ dL_law_178 (fun r u hp => ?_)
  rw [hp]
  refine z_eq (ws' := cw ad cI cR cS cm ++ (cw ap cI cR cS u1 ++ [iE cI o f1])) (lv' := [(5, .int v), (7, .int 0), (8, .int r0), (4, .int (nI t)), (0, .ref b), (1, .ref (ad 106)), (2, .ref (ap 106)), (3, .ref o)]) (st' := [.int 1]) (List.append_assoc _ _ _) rfl rfl ?_
  refine z_cs (k := 215 + 3 * t + 2 + 1) (n := 1193 + 18 * t + 12 + 6) rfl rfl ?_
  refine z_if_ne_t (tgt := 186) E dL_law_181 (by decide) (by decide) ?_
  refine z_lv [3, 0, 4, 5, 6, 7] (lv' := [(4, .int (nI t)), (5, .int v), (0, .ref b), (1, .ref (ad 106)), (2, .ref (ap 106)), (3, .ref o)]) rfl ?_
  exact K f1
set_option maxHeartbeats 8000000 in
set_option maxRecDepth 100000 in
theorem law_loop (hl : l.stackTraces = false) (E : zE p s m args c D (cK cI cR cS cL) A 10 cL_law RL wsL_law) (hZ : zSK A s s.heap) (hN : zNC s) (hX : va_X b Ls xs s s.heap) (hbl : b < s.heap.size) (hbA : ¬ A b) (hLs : Ls ≤ 260) (KE : ∀ (ws : va_W) (cells slots : Nat) (lv : List (Nat × Value)), cells ≤ 674598 → slots ≤ 7077831 → zW p l e room_1 s m args below meth c D A Q 10 ws cells slots 244 lv [.int 1]) : ∀ (n t : Nat) (q z q2 z2 : Nat) (cm pm : zM) (f : Nat → Int32), t + n = 44 → (q < 6 ∧ cm 101 1 = nI q ∧ z ≤ 6 ∧ cm 101 2 = nI z) → (q2 < 6 ∧ pm 101 1 = nI q2 ∧ z2 ≤ 6 ∧ pm 101 2 = nI z2) → zSE cm pm → zIN (3 * t) cm → zW p l e room_1 s m args below meth c D A Q 10 (cw ad cI cR cS cm ++ (cw ap cI cR cS pm ++ [iE cI o f])) (215 + 3 * t) (1193 + 18 * t) 23 [(4, .int (nI t)), (0, .ref b), (1, .ref (ad 106)), (2, .ref (ap 106)), (3, .ref o)] [] := by
  intro n
  induction n with
  | zero =>
    intro t q z q2 z2 cm pm f hn h1 h2 hSE hin
    obtain rfl : t = 44 := by omega
    refine z_iload E dL_law_23 0 rfl ?_
    refine z_bipush (v := 44) E dL_law_25 (by decide) ?_
    refine z_icmp_ge_t (tgt := 240) E dL_law_27 (by decide) (by decide) ?_
    refine z_aload_n E dL_law_240 rfl 2 rfl ?_
    refine z_callSi E hZ ((k_sums l D ad cI cR cS cL cm hl hin (by omega)).frL (cw ap cI cR cS pm ++ [iE cI o f])) gL_law_L_areSums (n := 1) rfl rfl rfl (by decide +kernel) rfl ⟨(Nat.le_of_ble_eq_true rfl), (Nat.le_of_ble_eq_true rfl)⟩ (As := [.ref (ad 106)]) (rest := []) rfl (Nat.le_of_ble_eq_true rfl) ⟨by show 215 + 3 * 44 + 0 ≤ 674598; omega, by show 1193 + 18 * 44 + 0 ≤ 7077831; omega⟩ dL_law_241 (fun r u hp => ?_)
    rw [hp]
    exact KE _ _ _ _ (by omega) (by omega)
  | succ n ih =>
    intro t q z q2 z2 cm pm f hn h1 h2 hSE hin
    have ht : t < 44 := by omega
    have hz6 := h1.2.2.1
    have hok := hin.1
    have hok2 := hSE.ok hok
    refine z_iload E dL_law_23 0 rfl ?_
    refine z_bipush (v := 44) E dL_law_25 (by decide) ?_
    refine z_icmp_ge_f (tgt := 240) E dL_law_27 (by decide) (fun h => by have := (nI_leI (a := 44) (b := t) (by omega) (by omega)).mp h; omega) ?_
    refine z_aload_n E dL_law_30 rfl 1 rfl ?_
    refine z_iload E dL_law_31 0 rfl ?_
    refine z_callSS E hZ hX hbl hbA (k_cell l D cI cR cS cL (cw ad cI cR cS cm ++ (cw ap cI cR cS pm ++ [iE cI o f])) hLs (k := t) (by omega)) gL_law_L_cell (n := 2) rfl rfl rfl (by decide +kernel) rfl ⟨(Nat.le_of_ble_eq_true rfl), (Nat.le_of_ble_eq_true rfl)⟩ (As := [.ref b, .int (nI t)]) (rest := []) rfl (Nat.le_of_ble_eq_true rfl) ⟨by show 215 + 3 * t + 0 ≤ 674598; omega, by show 1193 + 18 * t + 0 ≤ 7077831; omega⟩ dL_law_33 (fun r u hp => ?_)
    rw [hp]
    refine z_cs (k := 215 + 3 * t) (n := 1193 + 18 * t) rfl rfl ?_
    generalize fCell xs Ls t = v
    refine z_istore (lv' := [(5, .int v), (4, .int (nI t)), (0, .ref b), (1, .ref (ad 106)), (2, .ref (ap 106)), (3, .ref o)]) E dL_law_36 (by decide) rfl ?_
    refine z_aload_n E dL_law_38 rfl 3 rfl ?_
    refine z_iconst (v := 5) E dL_law_39 (by decide) ?_
    refine z_callViN E hZ ((k_count l D ad cI cR cS cL cm (c0 := 0) (s0 := 0) hl 5 (fun E u h => zno (show sCount cm 5 = (.inr (nI z), cm) from by rw [dCnt5, h1.2.2.2]) h)).frL (cw ap cI cR cS pm ++ [iE cI o f])) gL_law_X5_count (n := 1) rfl rfl rfl (by decide +kernel) rfl ⟨(Nat.le_of_ble_eq_true rfl), (Nat.le_of_ble_eq_true rfl)⟩ (C := RX5) rfl 106 ow_lad (As := [.int 5]) (rest := []) rfl (Nat.le_of_ble_eq_true rfl) ⟨by show 215 + 3 * t + 0 ≤ 674598; omega, by show 1193 + 18 * t + 0 ≤ 7077831; omega⟩ dL_law_40 (fun E u h => zno (show sCount cm 5 = (.inr (nI z), cm) from by rw [dCnt5, h1.2.2.2]) h) (fun r u hp => ?_)
    rw [(zyes (show sCount cm 5 = (.inr (nI z), cm) from by rw [dCnt5, h1.2.2.2]) hp).1, (zyes (show sCount cm 5 = (.inr (nI z), cm) from by rw [dCnt5, h1.2.2.2]) hp).2]
    refine z_cs (k := 215 + 3 * t) (n := 1193 + 18 * t) rfl rfl ?_
    refine z_istore (lv' := [(6, .int (nI z)), (5, .int v), (4, .int (nI t)), (0, .ref b), (1, .ref (ad 106)), (2, .ref (ap 106)), (3, .ref o)]) E dL_law_43 (by decide) rfl ?_
    refine z_aload_n E dL_law_45 rfl 4 rfl ?_
    refine z_iload E dL_law_46 1 rfl ?_
    refine z_aload_n E dL_law_48 rfl 6 rfl ?_
    refine z_swap ?_
    refine z_callSN E hZ hN ((k_act l D ad cI cR cS cL cm hl o f v h1.1 h1.2.1 h1.2.2.1 h1.2.2.2 hok.hA).frR (cw ap cI cR cS pm)) gL_law_L_act (n := 3) rfl rfl rfl (by decide +kernel) rfl ⟨(Nat.le_of_ble_eq_true rfl), (Nat.le_of_ble_eq_true rfl)⟩ (As := [.ref (ad 106), .int v, .ref o]) (rest := []) rfl (Nat.le_of_ble_eq_true rfl) ⟨by show 215 + 3 * t + 1 ≤ 674598; omega, by show 1193 + 18 * t + 6 ≤ 7077831; omega⟩ dL_law_49 (fun r u hp => ?_)
    obtain ⟨u1, f1⟩ := u
    refine z_swap ?_
    refine z_eq (ws' := cw ad cI cR cS u1 ++ (cw ap cI cR cS pm ++ [iE cI o f1])) (lv' := [(6, .int (nI z)), (5, .int v), (4, .int (nI t)), (0, .ref b), (1, .ref (ad 106)), (2, .ref (ap 106)), (3, .ref o)]) (st' := [.int r]) rfl rfl rfl ?_
    refine z_cs (k := 215 + 3 * t + 1) (n := 1193 + 18 * t + 6) rfl rfl ?_
    rcases two_ch (z := z) (z' := z2) hSE hin h1.1 h2.1 (zDec v) with ⟨E0, eS, eT⟩ | ⟨r0, m1, p1, eS, eT, hSE1, hin1, k1, k2⟩
    · obtain ⟨rfl, rfl⟩ := pWr_thrown hp eS
      refine z_istore (lv' := [(7, .int (cdX E0)), (6, .int (nI z)), (5, .int v), (4, .int (nI t)), (0, .ref b), (1, .ref (ad 106)), (2, .ref (ap 106)), (3, .ref o)]) E dL_law_52 (by decide) rfl ?_
      refine z_aload_n E dL_law_54 rfl 7 rfl ?_
      refine z_iconst (v := 0) E dL_law_55 (by decide) ?_
      refine z_iald E 214 0 (ow_at2 (x := iE cI o f1)) rfl (zvin rfl) (v := f1 0) rfl dL_law_56 ?_
      refine z_istore (lv' := [(8, .int (f1 0)), (7, .int (cdX E0)), (6, .int (nI z)), (5, .int v), (4, .int (nI t)), (0, .ref b), (1, .ref (ad 106)), (2, .ref (ap 106)), (3, .ref o)]) E dL_law_57 (by decide) rfl ?_
      refine z_iload E dL_law_59 1 rfl ?_
      refine z_if_eq_f (tgt := 84) E dL_law_61 (by decide) (cdX_ne E0) ?_
      refine z_aload_n E dL_law_64 rfl 6 rfl ?_
      refine z_aload_n E dL_law_65 rfl 7 rfl ?_
      refine z_eq (ws' := (cw ad cI cR cS u1 ++ cw ap cI cR cS pm) ++ [iE cI o f1]) (lv' := [(8, .int (f1 0)), (7, .int (cdX E0)), (6, .int (nI z)), (5, .int v), (4, .int (nI t)), (0, .ref b), (1, .ref (ad 106)), (2, .ref (ap 106)), (3, .ref o)]) (st' := [.ref (ap 106), .ref (ad 106)]) (List.append_assoc _ _ _).symm rfl rfl ?_
      refine z_callSi E hZ ((k_alike l D ad ap cI cR cS cL u1 pm hl hSE hok).frL [iE cI o f1]) gL_law_L_areAlike (n := 2) rfl rfl rfl (by decide +kernel) rfl ⟨(Nat.le_of_ble_eq_true rfl), (Nat.le_of_ble_eq_true rfl)⟩ (As := [.ref (ad 106), .ref (ap 106)]) (rest := []) rfl (Nat.le_of_ble_eq_true rfl) ⟨by show 215 + 3 * t + 1 + 0 ≤ 674598; omega, by show 1193 + 18 * t + 6 + 0 ≤ 7077831; omega⟩ dL_law_66 (fun r u hp => ?_)
      rw [hp]
      refine z_eq (ws' := cw ad cI cR cS u1 ++ (cw ap cI cR cS pm ++ [iE cI o f1])) (lv' := [(8, .int (f1 0)), (7, .int (cdX E0)), (6, .int (nI z)), (5, .int v), (4, .int (nI t)), (0, .ref b), (1, .ref (ad 106)), (2, .ref (ap 106)), (3, .ref o)]) (st' := [.int 1]) (List.append_assoc _ _ _) rfl rfl ?_
      refine z_cs (k := 215 + 3 * t + 1) (n := 1193 + 18 * t + 6) rfl rfl ?_
      refine z_if_eq_f (tgt := 82) E dL_law_69 (by decide) (by decide) ?_
      refine z_aload_n E dL_law_72 rfl 6 rfl ?_
      refine z_iconst (v := 5) E dL_law_73 (by decide) ?_
      refine z_callViN E hZ ((k_count l D ad cI cR cS cL u1 (c0 := 0) (s0 := 0) hl 5 (fun E u h => zno (show sCount u1 5 = (.inr (nI z), u1) from by rw [dCnt5, h1.2.2.2]) h)).frL (cw ap cI cR cS pm ++ [iE cI o f1])) gL_law_X5_count (n := 1) rfl rfl rfl (by decide +kernel) rfl ⟨(Nat.le_of_ble_eq_true rfl), (Nat.le_of_ble_eq_true rfl)⟩ (C := RX5) rfl 106 ow_lad (As := [.int 5]) (rest := []) rfl (Nat.le_of_ble_eq_true rfl) ⟨by show 215 + 3 * t + 1 + 0 ≤ 674598; omega, by show 1193 + 18 * t + 6 + 0 ≤ 7077831; omega⟩ dL_law_74 (fun E u h => zno (show sCount u1 5 = (.inr (nI z), u1) from by rw [dCnt5, h1.2.2.2]) h) (fun r u hp => ?_)
      rw [(zyes (show sCount u1 5 = (.inr (nI z), u1) from by rw [dCnt5, h1.2.2.2]) hp).1, (zyes (show sCount u1 5 = (.inr (nI z), u1) from by rw [dCnt5, h1.2.2.2]) hp).2]
      refine z_cs (k := 215 + 3 * t + 1) (n := 1193 + 18 * t + 6) rfl rfl ?_
      refine z_iload E dL_law_77 2 rfl ?_
      refine z_icmp_eq_t (tgt := 84) E dL_law_79 (by decide) rfl ?_
      refine z_iload E dL_law_84 1 rfl ?_
      refine z_if_ne_t (tgt := 151) E dL_law_86 (by decide) (cdX_ne E0) ?_
      refine z_aload_n E dL_law_151 rfl 7 rfl ?_
      refine z_iload E dL_law_152 3 rfl ?_
      refine z_aload_n E dL_law_154 rfl 8 rfl ?_
      refine z_callSN E hZ hN ((k_act l D ap cI cR cS cL pm hl o f1 v h2.1 h2.2.1 h2.2.2.1 h2.2.2.2 hok2.hA).frR (cw ad cI cR cS u1)) gL_law_L_act (n := 3) rfl rfl rfl (by decide +kernel) rfl ⟨(Nat.le_of_ble_eq_true rfl), (Nat.le_of_ble_eq_true rfl)⟩ (As := [.ref (ap 106), .int v, .ref o]) (rest := []) rfl (Nat.le_of_ble_eq_true rfl) ⟨by show 215 + 3 * t + 1 + 1 ≤ 674598; omega, by show 1193 + 18 * t + 6 + 6 ≤ 7077831; omega⟩ dL_law_155 (fun r u hp => ?_)
      obtain ⟨u2, f2⟩ := u
      refine z_eq (ws' := cw ad cI cR cS u1 ++ (cw ap cI cR cS u2 ++ [iE cI o f2])) (lv' := [(8, .int (f1 0)), (7, .int (cdX E0)), (6, .int (nI z)), (5, .int v), (4, .int (nI t)), (0, .ref b), (1, .ref (ad 106)), (2, .ref (ap 106)), (3, .ref o)]) (st' := [.int r]) rfl rfl rfl ?_
      refine z_cs (k := 215 + 3 * t + 1 + 1) (n := 1193 + 18 * t + 6 + 6) rfl rfl ?_
      obtain ⟨rfl, rfl⟩ := pWr_thrown hp eT
      refine z_iload E dL_law_158 1 rfl ?_
      refine z_icmp_ne_f (tgt := 184) E dL_law_160 (by decide) rfl ?_
      refine z_iload E dL_law_163 1 rfl ?_
      refine z_if_ne_t (tgt := 176) E dL_law_165 (by decide) (cdX_ne E0) ?_
      refine z_aload_n E dL_law_176 rfl 6 rfl ?_
      refine z_aload_n E dL_law_177 rfl 7 rfl ?_
      refine z_eq (ws' := (cw ad cI cR cS u1 ++ cw ap cI cR cS u2) ++ [iE cI o f2]) (lv' := [(8, .int (f1 0)), (7, .int (cdX E0)), (6, .int (nI z)), (5, .int v), (4, .int (nI t)), (0, .ref b), (1, .ref (ad 106)), (2, .ref (ap 106)), (3, .ref o)]) (st' := [.ref (ap 106), .ref (ad 106)]) (List.append_assoc _ _ _).symm rfl rfl ?_
      refine z_callSi E hZ ((k_alike l D ad ap cI cR cS cL u1 u2 hl hSE hok).frL [iE cI o f2]) gL_law_L_areAlike (n := 2) rfl rfl rfl (by decide +kernel) rfl ⟨(Nat.le_of_ble_eq_true rfl), (Nat.le_of_ble_eq_true rfl)⟩ (As := [.ref (ad 106), .ref (ap 106)]) (rest := []) rfl (Nat.le_of_ble_eq_true rfl) ⟨by show 215 + 3 * t + 1 + 1 + 0 ≤ 674598; omega, by show 1193 + 18 * t + 6 + 6 + 0 ≤ 7077831; omega⟩ dL_law_178 (fun r u hp => ?_)
      rw [hp]
      refine z_eq (ws' := cw ad cI cR cS u1 ++ (cw ap cI cR cS u2 ++ [iE cI o f2])) (lv' := [(8, .int (f1 0)), (7, .int (cdX E0)), (6, .int (nI z)), (5, .int v), (4, .int (nI t)), (0, .ref b), (1, .ref (ad 106)), (2, .ref (ap 106)), (3, .ref o)]) (st' := [.int 1]) (List.append_assoc _ _ _) rfl rfl ?_
      refine z_cs (k := 215 + 3 * t + 1 + 1) (n := 1193 + 18 * t + 6 + 6) rfl rfl ?_
      refine z_if_ne_t (tgt := 186) E dL_law_181 (by decide) (by decide) ?_
      refine z_lv [4, 3, 5, 6, 7, 8] (lv' := [(4, .int (nI t)), (5, .int v), (0, .ref b), (1, .ref (ad 106)), (2, .ref (ap 106)), (3, .ref o)]) rfl ?_
      refine z_widen (k := 215 + 3 * t + 3) (n := 1193 + 18 * t + 18) (by omega) (by omega) ?_
      refine law_186 hl E hZ hN ht v u1 u2 f2 (zIN_mono (by omega) hin) (fun w hw => ?_)
      exact ih (t + 1) q z q2 z2 w u2 f2 (by omega) ⟨h1.1, by rw [hw 101 (by omega)]; exact h1.2.1, h1.2.2.1, by rw [hw 101 (by omega)]; exact h1.2.2.2⟩ h2 (hSE.tr hw) (zIN_mono (by omega) (zIN_SE ((zSE.rfl' u1).tr hw).symm' hin))
    · obtain ⟨rfl, rfl, ef⟩ := pWr_done hp eS
      have hh := hist_on h1.1 h1.2.2.1 k1
      have hh2 := hist_on h2.1 h2.2.2.1 k2
      refine z_istore (lv' := [(7, .int 0), (6, .int (nI z)), (5, .int v), (4, .int (nI t)), (0, .ref b), (1, .ref (ad 106)), (2, .ref (ap 106)), (3, .ref o)]) E dL_law_52 (by decide) rfl ?_
      refine z_aload_n E dL_law_54 rfl 7 rfl ?_
      refine z_iconst (v := 0) E dL_law_55 (by decide) ?_
      refine z_iald E 214 0 (ow_at2 (x := iE cI o f1)) rfl (zvin rfl) (v := f1 0) rfl dL_law_56 ?_
      refine z_eq (ws' := cw ad cI cR cS u1 ++ (cw ap cI cR cS pm ++ [iE cI o f1])) (lv' := [(7, .int 0), (6, .int (nI z)), (5, .int v), (4, .int (nI t)), (0, .ref b), (1, .ref (ad 106)), (2, .ref (ap 106)), (3, .ref o)]) (st' := [.int r0]) rfl rfl (by rw [ef]) ?_
      refine z_istore (lv' := [(8, .int r0), (7, .int 0), (6, .int (nI z)), (5, .int v), (4, .int (nI t)), (0, .ref b), (1, .ref (ad 106)), (2, .ref (ap 106)), (3, .ref o)]) E dL_law_57 (by decide) rfl ?_
      refine z_iload E dL_law_59 1 rfl ?_
      refine z_if_eq_t (tgt := 84) E dL_law_61 (by decide) rfl ?_
      refine z_iload E dL_law_84 1 rfl ?_
      refine z_if_ne_f (tgt := 151) E dL_law_86 (by decide) rfl ?_
      have on : ∀ (M : zM) (g1 : Nat → Int32), zSE M p1 → zIN (3 * t + 3) M → (nx q < 6 ∧ M 101 1 = nI (nx q) ∧ nz z ≤ 6 ∧ M 101 2 = nI (nz z)) → zW p l e room_1 s m args below meth c D A Q 10 (cw ad cI cR cS M ++ (cw ap cI cR cS pm ++ [iE cI o g1])) (215 + 3 * t + 2) (1193 + 18 * t + 12) 151 [(5, .int v), (7, .int 0), (8, .int r0), (4, .int (nI t)), (0, .ref b), (1, .ref (ad 106)), (2, .ref (ap 106)), (3, .ref o)] [] := by
        intro M g1 hSM hiM hhM
        refine law_151 hl E hZ hN ht h2 hok2 eT hSM hiM.1 (fun f2 => ?_)
        refine law_186 hl E hZ hN ht v M p1 f2 hiM (fun w hw => ?_)
        exact ih (t + 1) (nx q) (nz z) (nx q2) (nz z2) w p1 f2 (by omega) ⟨hhM.1, by rw [hw 101 (by omega)]; exact hhM.2.1, hhM.2.2.1, by rw [hw 101 (by omega)]; exact hhM.2.2.2⟩ hh2 (hSM.tr hw) (zIN_SE ((zSE.rfl' M).tr hw).symm' hiM)
      refine z_iload E dL_law_89 3 rfl ?_
      refine z_bipush (v := 9) E dL_law_91 (by decide) ?_
      refine z_ishr E dL_law_93 ?_
      refine z_iconst (v := 1) E dL_law_94 (by decide) ?_
      refine z_iand E dL_law_95 ?_
      refine z_if_ne (tgt := 151) E dL_law_96 (by decide) (fun c96 => ?_) (fun c96 => ?_)
      · skip
        refine z_lv [3, 1, 0, 4, 5, 6, 7, 8] (lv' := [(5, .int v), (7, .int 0), (8, .int r0), (4, .int (nI t)), (0, .ref b), (1, .ref (ad 106)), (2, .ref (ap 106)), (3, .ref o)]) rfl ?_
        refine z_widen (k := 215 + 3 * t + 2) (n := 1193 + 18 * t + 12) (by omega) (by omega) ?_
        exact on u1 f1 hSE1 hin1 hh
      · skip
        obtain ⟨eu, ea, eb⟩ := undo_of h1.1 h1.2.2.1 hh.2.2.2
        have hSb := back_SE (n := nz z) h1.1 k1
        have hSb2 := hSb.trans' hSE
        have hinb := zIN_SE hSb.symm' hin
        generalize sRest u1 q (nz z) = mb at eu ea eb hSb hSb2 hinb
        refine z_aload_n E dL_law_99 rfl 6 rfl ?_
        refine z_callViN E hZ ((k_undo l D ad cI cR cS cL u1 (c0 := 0) (s0 := 0) hl hh.1 hh.2.1 hh.2.2.1 hh.2.2.2 (fun E u h => zno eu h)).frL (cw ap cI cR cS pm ++ [iE cI o f1])) gL_law_X5_undo (n := 0) rfl rfl rfl (by decide +kernel) rfl ⟨(Nat.le_of_ble_eq_true rfl), (Nat.le_of_ble_eq_true rfl)⟩ (C := RX5) rfl 106 ow_lad (As := []) (rest := []) rfl (Nat.le_of_ble_eq_true rfl) ⟨by show 215 + 3 * t + 1 + 0 ≤ 674598; omega, by show 1193 + 18 * t + 6 + 0 ≤ 7077831; omega⟩ dL_law_100 (fun E u h => zno eu h) (fun r u hp2 => ?_)
        rw [(zyes eu hp2).1, (zyes eu hp2).2]
        refine z_cs (k := 215 + 3 * t + 1) (n := 1193 + 18 * t + 6) rfl rfl ?_
        refine z_istore (lv' := [(9, .int (nI (if z = 6 then 5 else z))), (8, .int r0), (7, .int 0), (6, .int (nI z)), (5, .int v), (4, .int (nI t)), (0, .ref b), (1, .ref (ad 106)), (2, .ref (ap 106)), (3, .ref o)]) E dL_law_103 (by decide) rfl ?_
        refine z_iload E dL_law_105 0 rfl ?_
        refine z_iload E dL_law_107 3 rfl ?_
        refine z_bipush (v := 6) E dL_law_109 (by decide) ?_
        refine z_join (fun v120 => v120 = nI (if z = 6 then 5 else z)) (pc2 := 120) (c2 := 215 + 3 * t + 1) (s2 := 1193 + 18 * t + 6) (lv2 := (fun _ => [(9, .int (nI (if z = 6 then 5 else z))), (8, .int r0), (7, .int 0), (6, .int (nI z)), (5, .int v), (4, .int (nI t)), (0, .ref b), (1, .ref (ad 106)), (2, .ref (ap 106)), (3, .ref o)])) (st2 := (fun v120 => [.int v120, .int (nI (if z = 6 then 5 else z))])) (fun v120 h120 => ?_) (fun J120 => ?_)
        · skip
          rw [h120]
          refine z_icmp_ne_f (tgt := 149) E dL_law_120 (by decide) rfl ?_
          refine z_aload_n E dL_law_123 rfl 7 rfl ?_
          refine z_aload_n E dL_law_124 rfl 8 rfl ?_
          refine z_eq (ws' := (cw ad cI cR cS mb ++ cw ap cI cR cS pm) ++ [iE cI o f1]) (lv' := [(9, .int (nI (if z = 6 then 5 else z))), (8, .int r0), (7, .int 0), (6, .int (nI z)), (5, .int v), (4, .int (nI t)), (0, .ref b), (1, .ref (ad 106)), (2, .ref (ap 106)), (3, .ref o)]) (st' := [.ref (ap 106), .ref (ad 106)]) (List.append_assoc _ _ _).symm rfl rfl ?_
          refine z_callSi E hZ ((k_alike l D ad ap cI cR cS cL mb pm hl hSb2 hinb.1).frL [iE cI o f1]) gL_law_L_areAlike (n := 2) rfl rfl rfl (by decide +kernel) rfl ⟨(Nat.le_of_ble_eq_true rfl), (Nat.le_of_ble_eq_true rfl)⟩ (As := [.ref (ad 106), .ref (ap 106)]) (rest := []) rfl (Nat.le_of_ble_eq_true rfl) ⟨by show 215 + 3 * t + 1 + 0 ≤ 674598; omega, by show 1193 + 18 * t + 6 + 0 ≤ 7077831; omega⟩ dL_law_125 (fun r u hp => ?_)
          rw [hp]
          refine z_eq (ws' := cw ad cI cR cS mb ++ (cw ap cI cR cS pm ++ [iE cI o f1])) (lv' := [(9, .int (nI (if z = 6 then 5 else z))), (8, .int r0), (7, .int 0), (6, .int (nI z)), (5, .int v), (4, .int (nI t)), (0, .ref b), (1, .ref (ad 106)), (2, .ref (ap 106)), (3, .ref o)]) (st' := [.int 1]) (List.append_assoc _ _ _) rfl rfl ?_
          refine z_cs (k := 215 + 3 * t + 1) (n := 1193 + 18 * t + 6) rfl rfl ?_
          refine z_if_eq_f (tgt := 149) E dL_law_128 (by decide) (by decide) ?_
          refine z_aload_n E dL_law_131 rfl 7 rfl ?_
          refine z_iload E dL_law_132 4 rfl ?_
          refine z_aload_n E dL_law_134 rfl 9 rfl ?_
          refine z_swap ?_
          refine z_callSN E hZ hN ((k_act l D ad cI cR cS cL mb hl o f1 v h1.1 ea (show (if z = 6 then 5 else z) ≤ 6 by have := h1.2.2.1; split <;> omega) eb hinb.1.hA).frR (cw ap cI cR cS pm)) gL_law_L_act (n := 3) rfl rfl rfl (by decide +kernel) rfl ⟨(Nat.le_of_ble_eq_true rfl), (Nat.le_of_ble_eq_true rfl)⟩ (As := [.ref (ad 106), .int v, .ref o]) (rest := []) rfl (Nat.le_of_ble_eq_true rfl) ⟨by show 215 + 3 * t + 1 + 1 ≤ 674598; omega, by show 1193 + 18 * t + 6 + 6 ≤ 7077831; omega⟩ dL_law_135 (fun r u hp => ?_)
          obtain ⟨u2, f2⟩ := u
          refine z_swap ?_
          refine z_eq (ws' := cw ad cI cR cS u2 ++ (cw ap cI cR cS pm ++ [iE cI o f2])) (lv' := [(9, .int (nI (if z = 6 then 5 else z))), (8, .int r0), (7, .int 0), (6, .int (nI z)), (5, .int v), (4, .int (nI t)), (0, .ref b), (1, .ref (ad 106)), (2, .ref (ap 106)), (3, .ref o)]) (st' := [.int r]) rfl rfl rfl ?_
          refine z_cs (k := 215 + 3 * t + 1 + 1) (n := 1193 + 18 * t + 6 + 6) rfl rfl ?_
          rcases two_ch (z := if z = 6 then 5 else z) (z' := z2) hSb2 hinb h1.1 h2.1 (zDec v) with ⟨E0, -, eT2⟩ | ⟨r1, m2, p2, eS2, eT2, hSE2, hin2, k3, -⟩
          · rw [eT] at eT2; cases eT2
          · rw [eT] at eT2
            cases eT2
            obtain ⟨rfl, rfl, ef2⟩ := pWr_done hp eS2
            refine z_if_ne_f (tgt := 149) E dL_law_138 (by decide) rfl ?_
            refine z_aload_n E dL_law_141 rfl 9 rfl ?_
            refine z_iconst (v := 0) E dL_law_142 (by decide) ?_
            refine z_iald E 214 0 (ow_at2 (x := iE cI o f2)) rfl (zvin rfl) (v := f2 0) rfl dL_law_143 ?_
            refine z_iload E dL_law_144 1 rfl ?_
            refine z_icmp_eq_t (tgt := 151) E dL_law_146 (by decide) ef2 ?_
            refine z_lv [4, 2, 1, 5, 6, 7, 8, 9] (lv' := [(5, .int v), (7, .int 0), (8, .int r0), (4, .int (nI t)), (0, .ref b), (1, .ref (ad 106)), (2, .ref (ap 106)), (3, .ref o)]) rfl ?_
            have hh3 := hist_on h1.1 (show (if z = 6 then 5 else z) ≤ 6 by have := h1.2.2.1; split <;> omega) k3
            rw [nz_back h1.2.2.1] at hh3
            exact on u2 f2 hSE2 hin2 hh3
        · skip
          refine z_icmp_ne (tgt := 118) E dL_law_111 (by decide) (fun c111 => ?_) (fun c111 => ?_)
          · skip
            refine z_iload E dL_law_118 3 rfl ?_
            exact J120 _ (congrArg nI (if_neg (fun h => c111 (congrArg nI h))).symm)
          · skip
            refine z_iconst (v := 5) E dL_law_114 (by decide) ?_
            refine z_goto (tgt := 120) E dL_law_115 (by decide) ?_
            exact J120 _ (congrArg nI (if_pos ((nI_eq (a := z) (b := 6) (by omega) (by omega)).mp c111)).symm)
end ZLO
