/-! the law's loop, and its start -/
section ZSW
variable {p : Program} {l : Launch} {e : Env} {R : Room} {s : State} {m : MethodId} {args : Array Value} {below : List Frame} {meth : Method} {c : Code} {D : va_G} {A : Nat → Prop} {Q : State → Prop} {nL : Nat} {cells slots pc : Nat} {lv : List (Nat × Value)} {rest : List Value}
theorem z_swap3 {a b c1 : va_W} (k : zW p l e R s m args below meth c D A Q nL (b ++ (a ++ c1)) cells slots pc lv rest) : zW p l e R s m args below meth c D A Q nL ((a ++ b) ++ c1) cells slots pc lv rest := fun H locs ls hP hD hS hl => by
  refine k H locs ls ((vP_R (vP_L hP)).app ((vP_L (vP_L hP)).app (vP_R hP))) ?_ hS hl
  have x := vD_X hD
  have xab := vD_X (vD_L hD)
  refine va_D.app (vD_R (vD_L hD)) (va_D.app (vD_L (vD_L hD)) (vD_R hD) (fun i j p q hi hj => x i j p q (by rw [List.getElem?_append_left (List.getElem?_eq_some_iff.mp hi).1]; exact hi) hj)) (fun i j p q hi hj hpq => ?_)
  by_cases hlt : j < a.length
  · rw [List.getElem?_append_left hlt] at hj
    exact xab j i q p hj hi hpq.symm
  · rw [List.getElem?_append_right (by omega)] at hj
    exact x (a.length + i) (j - a.length) p q (by rw [List.getElem?_append_right (by omega), show a.length + i - a.length = i by omega]; exact hi) hj hpq
end ZSW
theorem lw_le {i Ls : Nat} (h : Ls ≤ 2560) (hi : i ≤ 2600) : (nI Ls - 5 < nI i) ↔ Ls < i + 5 := by
  have e1 : (nI Ls - 5).toInt = (Ls : Int) - 5 := zsI (zL (by omega)) (by decide) (by omega) (by omega)
  rw [zltI e1 (zL (by omega))]
  omega
section ZLO
variable {p : Program} {l : Launch} {e : Env} {s : State} {m : MethodId} {args : Array Value} {below : List Frame} {meth : Method} {c : Code} {D : va_G} {A : Nat → Prop} {Q : State → Prop} {ad am : Nat → Nat} {cI cR cS cL : ClassId} {o b Ls : Nat} {xs : Nat → Int32} 
set_option maxHeartbeats 4000000 in
set_option maxRecDepth 100000 in
theorem law_loop (hl : l.stackTraces = false) (E : zE p s m args c D (cK cI cR cS cL) A 9 cL_law RL wsL_law) (hZ : zSK A s s.heap) (hN : zNC s) (hX : va_X b Ls xs s s.heap) (hbl : b < s.heap.size) (hbA : ¬ A b) (hLs : Ls ≤ 2560) (KE : ∀ (ws : va_W) (cells slots : Nat) (lv : List (Nat × Value)), cells ≤ 642294 → slots ≤ 7169221 → zW p l e room_1 s m args below meth c D A Q 9 ws cells slots 1463 lv []) : ∀ (n t : Nat) (q z L : Nat) (cm mm : zM) (dg : Int64) (f : Nat → Int64), Ls < 5 * n + 5 * t → t ≤ 512 → zR (180 * t) cm mm q z L → zW p l e room_1 s m args below meth c D A Q 9 (mw am cI dg mm ++ (cw ad cI cR cS cm ++ [oE cL o f])) (112 + t) (1079 + 6 * t) 23 [(4, .int (nI (5 * t))), (0, .ref b), (1, .ref (ad 106)), (2, .ref (am 0)), (3, .ref o)] [] := by
  intro n
  induction n with
  | zero =>
    intro t q z L cm mm dg f hn ht hR
    refine z_iload E dL_law_23 0 rfl ?_
    refine z_aload_n E dL_law_25 rfl 1 rfl ?_
    refine z_slen E hX hbl hbA dL_law_26 ?_
    refine z_iconst (v := 5) E dL_law_27 (by decide) ?_
    refine z_isub E dL_law_28 ?_
    refine z_icmp_gt_t (tgt := 1463) E dL_law_29 (by decide) ((lw_le hLs (by omega)).mpr (by omega)) ?_
    exact KE _ _ _ _ (by omega) (by omega)
  | succ n ih =>
    intro t q z L cm mm dg f hn ht hR
    refine z_iload E dL_law_23 0 rfl ?_
    refine z_aload_n E dL_law_25 rfl 1 rfl ?_
    refine z_slen E hX hbl hbA dL_law_26 ?_
    refine z_iconst (v := 5) E dL_law_27 (by decide) ?_
    refine z_isub E dL_law_28 ?_
    refine z_icmp_gt (tgt := 1463) E dL_law_29 (by decide) (fun c29 => ?_) (fun c29 => ?_)
    · exact KE _ _ _ _ (by omega) (by omega)
    have hi : 5 * t + 5 ≤ Ls := Nat.le_of_not_lt (fun g => c29 ((lw_le hLs (by omega)).mpr (by omega)))
    have K : ∀ (c2 m2 : zM) (d2 : Int64) (f2 : Nat → Int64) (q2 z2 L2 : Nat), zR (180 * t + 180) c2 m2 q2 z2 L2 → zW p l e room_1 s m args below meth c D A Q 9 (mw am cI d2 m2 ++ (cw ad cI cR cS c2 ++ [oE cL o f2])) (112 + t + 1) (1079 + 6 * t + 6) 1457 [(4, .int (nI (5 * t))), (0, .ref b), (1, .ref (ad 106)), (2, .ref (am 0)), (3, .ref o)] [] := by
      intro c2 m2 d2 f2 q2 z2 L2 hR2
      refine z_iinc (v := nI (5 * (t + 1))) (lv' := [(4, .int (nI (5 * (t + 1)))), (0, .ref b), (1, .ref (ad 106)), (2, .ref (am 0)), (3, .ref o)]) E dL_law_1457 (q := 0) rfl (by rw [show Int32.ofInt 5 = nI 5 by decide, nI_add, show 5 * t + 5 = 5 * (t + 1) by omega]) (by decide) rfl ?_
      refine z_goto (tgt := 23) E dL_law_1460 (by decide) ?_
      refine z_cs (k := 112 + (t + 1)) (n := 1079 + 6 * (t + 1)) (by omega) (by omega) ?_
      exact ih (t + 1) q2 z2 L2 c2 m2 d2 f2 (by omega) (by omega) (by rw [show 180 * (t + 1) = 180 * t + 180 by omega]; exact hR2)
    have hroom : 112 + t + 1 ≤ room_1.cells ∧ 1079 + 6 * t + 6 ≤ room_1.slots := ⟨by show 112 + t + 1 ≤ 642294; omega, by show 1079 + 6 * t + 6 ≤ 7169221; omega⟩
    refine z_aload_n E dL_law_32 rfl 1 rfl ?_
    refine z_iload E dL_law_33 0 rfl ?_
    obtain ⟨x0, hx0⟩ : ∃ v, xs (nI (5 * t)).toNatClampNeg = v := ⟨_, rfl⟩
    refine z_sld E hX hbl hbA (vp_in_nI (by omega) (by omega)) hx0 dL_law_35 ?_
    refine z_bipush (v := 31) E dL_law_36 (by decide) ?_
    refine z_iand E dL_law_38 ?_
    generalize x0 &&& 31 = y
    by_cases y0 : y = 0
    · refine z_tableIn (off := 105) (tgt := 144) E dL_law_39 (by rw [y0]; decide) (by rw [y0]; decide) (by rw [y0]; decide) (by decide) ?_
      exact lc_put hl E hZ hN hX hbl hbA hi hLs hroom (by omega) hR K
    by_cases y1 : y = 1
    · refine z_tableIn (off := 197) (tgt := 236) E dL_law_39 (by rw [y1]; decide) (by rw [y1]; decide) (by rw [y1]; decide) (by decide) ?_
      exact lc_kinds hl E hZ hN hX hbl hbA hi hLs hroom (by omega) hR K
    by_cases y2 : y = 2
    · refine z_tableIn (off := 277) (tgt := 316) E dL_law_39 (by rw [y2]; decide) (by rw [y2]; decide) (by rw [y2]; decide) (by decide) ?_
      exact lc_rope hl E hZ hN hX hbl hbA hi hLs hroom (by omega) hR K
    by_cases y3 : y = 3
    · refine z_tableIn (off := 345) (tgt := 384) E dL_law_39 (by rw [y3]; decide) (by rw [y3]; decide) (by rw [y3]; decide) (by decide) ?_
      exact lc_on hl E hZ hN hX hbl hbA hi hLs hroom (by omega) hR K
    by_cases y4 : y = 4
    · refine z_tableIn (off := 413) (tgt := 452) E dL_law_39 (by rw [y4]; decide) (by rw [y4]; decide) (by rw [y4]; decide) (by decide) ?_
      exact lc_off hl E hZ hN hX hbl hbA hi hLs hroom (by omega) hR K
    by_cases y5 : y = 5
    · refine z_tableIn (off := 481) (tgt := 520) E dL_law_39 (by rw [y5]; decide) (by rw [y5]; decide) (by rw [y5]; decide) (by decide) ?_
      exact lc_climb hl E hZ hN hX hbl hbA hi hLs hroom (by omega) hR K
    by_cases y6 : y = 6
    · refine z_tableIn (off := 561) (tgt := 600) E dL_law_39 (by rw [y6]; decide) (by rw [y6]; decide) (by rw [y6]; decide) (by decide) ?_
      exact lc_append hl E hZ hN hX hbl hbA hi hLs hroom (by omega) hR K
    by_cases y7 : y = 7
    · refine z_tableIn (off := 617) (tgt := 656) E dL_law_39 (by rw [y7]; decide) (by rw [y7]; decide) (by rw [y7]; decide) (by decide) ?_
      exact lc_clearBuffer hl E hZ hN hX hbl hbA hi hLs hroom (by omega) hR K
    by_cases y8 : y = 8
    · refine z_tableIn (off := 630) (tgt := 669) E dL_law_39 (by rw [y8]; decide) (by rw [y8]; decide) (by rw [y8]; decide) (by decide) ?_
      exact lc_firstError hl E hZ hN hX hbl hbA hi hLs hroom (by omega) hR K
    by_cases y9 : y = 9
    · refine z_tableIn (off := 643) (tgt := 682) E dL_law_39 (by rw [y9]; decide) (by rw [y9]; decide) (by rw [y9]; decide) (by decide) ?_
      exact lc_play hl E hZ hN hX hbl hbA hi hLs hroom (by omega) hR K
    by_cases y10 : y = 10
    · refine z_tableIn (off := 687) (tgt := 726) E dL_law_39 (by rw [y10]; decide) (by rw [y10]; decide) (by rw [y10]; decide) (by decide) ?_
      exact lc_undo hl E hZ hN hX hbl hbA hi hLs hroom (by omega) hR K
    by_cases y11 : y = 11
    · refine z_tableIn (off := 731) (tgt := 770) E dL_law_39 (by rw [y11]; decide) (by rw [y11]; decide) (by rw [y11]; decide) (by decide) ?_
      exact lc_ladder hl E hZ hN hX hbl hbA hi hLs hroom (by omega) hR K
    by_cases y12 : y = 12
    · refine z_tableIn (off := 799) (tgt := 838) E dL_law_39 (by rw [y12]; decide) (by rw [y12]; decide) (by rw [y12]; decide) (by decide) ?_
      exact lc_person hl E hZ hN hX hbl hbA hi hLs hroom (by omega) hR K
    by_cases y13 : y = 13
    · refine z_tableIn (off := 879) (tgt := 918) E dL_law_39 (by rw [y13]; decide) (by rw [y13]; decide) (by rw [y13]; decide) (by decide) ?_
      exact lc_force hl E hZ hN hX hbl hbA hi hLs hroom (by omega) hR K
    by_cases y14 : y = 14
    · refine z_tableIn (off := 947) (tgt := 986) E dL_law_39 (by rw [y14]; decide) (by rw [y14]; decide) (by rw [y14]; decide) (by decide) ?_
      exact lc_held hl E hZ hN hX hbl hbA hi hLs hroom (by omega) hR K
    by_cases y15 : y = 15
    · refine z_tableIn (off := 1015) (tgt := 1054) E dL_law_39 (by rw [y15]; decide) (by rw [y15]; decide) (by rw [y15]; decide) (by decide) ?_
      exact lc_count hl E hZ hN hX hbl hbA hi hLs hroom (by omega) hR K
    by_cases y16 : y = 16
    · refine z_tableIn (off := 1071) (tgt := 1110) E dL_law_39 (by rw [y16]; decide) (by rw [y16]; decide) (by rw [y16]; decide) (by decide) ?_
      exact lc_highest hl E hZ hN hX hbl hbA hi hLs hroom (by omega) hR K
    by_cases y17 : y = 17
    · refine z_tableIn (off := 1139) (tgt := 1178) E dL_law_39 (by rw [y17]; decide) (by rw [y17]; decide) (by rw [y17]; decide) (by decide) ?_
      exact lc_neededRope hl E hZ hN hX hbl hbA hi hLs hroom (by omega) hR K
    by_cases y18 : y = 18
    · refine z_tableIn (off := 1195) (tgt := 1234) E dL_law_39 (by rw [y18]; decide) (by rw [y18]; decide) (by rw [y18]; decide) (by decide) ?_
      exact lc_bestBase hl E hZ hN hX hbl hbA hi hLs hroom (by omega) hR K
    by_cases y19 : y = 19
    · refine z_tableIn (off := 1251) (tgt := 1290) E dL_law_39 (by rw [y19]; decide) (by rw [y19]; decide) (by rw [y19]; decide) (by decide) ?_
      exact lc_riskiest hl E hZ hN hX hbl hbA hi hLs hroom (by omega) hR K
    by_cases y20 : y = 20
    · refine z_tableIn (off := 1307) (tgt := 1346) E dL_law_39 (by rw [y20]; decide) (by rw [y20]; decide) (by rw [y20]; decide) (by decide) ?_
      exact lc_walls hl E hZ hN hX hbl hbA hi hLs hroom (by omega) hR K
    by_cases y21 : y = 21
    · refine z_tableIn (off := 1363) (tgt := 1402) E dL_law_39 (by rw [y21]; decide) (by rw [y21]; decide) (by rw [y21]; decide) (by decide) ?_
      exact lc_safety hl E hZ hN hX hbl hbA hi hLs hroom (by omega) hR K
    by_cases y22 : y = 22
    · refine z_tableIn (off := 1404) (tgt := 1443) E dL_law_39 (by rw [y22]; decide) (by rw [y22]; decide) (by rw [y22]; decide) (by decide) ?_
      exact lc_digest hl E hZ hN hX hbl hbA hi hLs hroom (by omega) hR K
    refine z_tableOut (tgt := 1457) E dL_law_39 (by have q0 := zne (x := y) (k := 0) (n := 0) (by decide) y0; have q1 := zne (x := y) (k := 1) (n := 1) (by decide) y1; have q2 := zne (x := y) (k := 2) (n := 2) (by decide) y2; have q3 := zne (x := y) (k := 3) (n := 3) (by decide) y3; have q4 := zne (x := y) (k := 4) (n := 4) (by decide) y4; have q5 := zne (x := y) (k := 5) (n := 5) (by decide) y5; have q6 := zne (x := y) (k := 6) (n := 6) (by decide) y6; have q7 := zne (x := y) (k := 7) (n := 7) (by decide) y7; have q8 := zne (x := y) (k := 8) (n := 8) (by decide) y8; have q9 := zne (x := y) (k := 9) (n := 9) (by decide) y9; have q10 := zne (x := y) (k := 10) (n := 10) (by decide) y10; have q11 := zne (x := y) (k := 11) (n := 11) (by decide) y11; have q12 := zne (x := y) (k := 12) (n := 12) (by decide) y12; have q13 := zne (x := y) (k := 13) (n := 13) (by decide) y13; have q14 := zne (x := y) (k := 14) (n := 14) (by decide) y14; have q15 := zne (x := y) (k := 15) (n := 15) (by decide) y15; have q16 := zne (x := y) (k := 16) (n := 16) (by decide) y16; have q17 := zne (x := y) (k := 17) (n := 17) (by decide) y17; have q18 := zne (x := y) (k := 18) (n := 18) (by decide) y18; have q19 := zne (x := y) (k := 19) (n := 19) (by decide) y19; have q20 := zne (x := y) (k := 20) (n := 20) (by decide) y20; have q21 := zne (x := y) (k := 21) (n := 21) (by decide) y21; have q22 := zne (x := y) (k := 22) (n := 22) (by decide) y22; omega) (by decide) ?_
    refine z_widen (k := 112 + t + 1) (n := 1079 + 6 * t + 6) (by omega) (by omega) ?_
    exact K _ _ _ _ _ _ _ (zR_mono (by omega) hR)
end ZLO
set_option maxHeartbeats 4000000 in
set_option maxRecDepth 100000 in
theorem whole_start {p : Program} {e : Env} {s : State} {m : MethodId} {below : List Frame} {meth : Method} {c : Code} (l : Launch) (hflags : l.flags = flags0) {b L : Nat} {xs : Nat → Int32} (hL : L ≤ 2560) (C0 : lw_At p s m meth c b L xs) : W p l e room_1 s m #[Value.ref b] below meth c s.heap [] 0 0 (lw_Z below #[Value.ref b] s) (entryFrame m ([Value.ref b] : List Value).toArray 9) := by
  obtain ⟨hx, hb, hr, hml, hown, hts, hX, hbl, hlocks, hgv⟩ := id C0
  have hf := flat_of_before _ hgv
  obtain ⟨D, cI, cR, cS, cL, hK⟩ := st_K hts
  have hA0 : ∀ a : Nat, a < s.heap.size → ¬ (fun q : Nat => s.heap.size ≤ q) a := fun a h => Nat.not_le.mpr h
  have hZ : zSK (fun q : Nat => s.heap.size ≤ q) s s.heap := st_Z hts hf hA0
  have hN : zNC s := st_nc hf
  have hO : zAO s := st_ao hts
  have hl0 : l.stackTraces = false := by unfold Launch.stackTraces; rw [hflags]; decide
  have hbA : ¬ (fun q : Nat => s.heap.size ≤ q) b := Nat.not_le.mpr hbl
  have E : zE p s m #[Value.ref b] c D (cK cI cR cS cL) (fun q : Nat => s.heap.size ≤ q) 9 cL_law RL wsL_law := ⟨hx, hb, hml, hown, fun w hw => hts w (wsL_law_in w hw), hK, fun _ h => h⟩
  have w1 : ∀ w ∈ wsL_law0_r1, w ∈ wsL_law := fun w h => (List.mem_append_left _ (List.mem_append_left _ (List.mem_append_left _ (List.mem_append_left _ (List.mem_append_left _ (List.mem_append_left _ (List.mem_append_left _ (List.mem_append_left _ (List.mem_append_left _ (List.mem_append_left _ (List.mem_append_left _ (List.mem_append_left _ h))))))))))))
  have w4 : ∀ w ∈ wsL_law0_r4, w ∈ wsL_law := fun w h => (List.mem_append_left _ (List.mem_append_left _ (List.mem_append_left _ (List.mem_append_left _ (List.mem_append_left _ (List.mem_append_left _ (List.mem_append_left _ (List.mem_append_left _ (List.mem_append_left _ (List.mem_append_left _ (List.mem_append_left _ (List.mem_append_right _ (List.mem_append_right _ (List.mem_append_right _ (List.mem_append_left _ h)))))))))))))))
  have KE : ∀ (ws : va_W) (cells slots : Nat) (lv : List (Nat × Value)), cells ≤ 642294 → slots ≤ 7169221 → zW p l e room_1 s m #[Value.ref b] below meth c D (fun q : Nat => s.heap.size ≤ q) (lw_Z below #[Value.ref b] s) 9 ws cells slots 1463 lv [] := by
    intro ws cells slots lv hc hs
    refine z_iconst (v := 1) E dL_law_1463 (by decide) ?_
    intro H locs ls hP hD hS hl
    exact va_forget hS.2.2 (W.widen hc hs (lw_ret (d0 := s.drawn) (Drawn.sameBut.refl s.drawn lw_cs) hx hb hr hlocks dL_law_1464))
  have main : zW p l e room_1 s m #[Value.ref b] below meth c D (fun q : Nat => s.heap.size ≤ q) (lw_Z below #[Value.ref b] s) 9 [] 0 0 0 [(0, .ref b)] [] := by
    refine z_new E (C := RX5) (T := TX5) (N := 4) (ci := 5) inlX5 tyX5 tyX5_ok (w1 _ (List.mem_of_getElem? (i := 0) (by decide +kernel))) (w1 _ (List.mem_of_getElem? (i := 1) (by decide +kernel))) (w1 _ (List.mem_of_getElem? (i := 2) (by decide +kernel))) rfl (fs := [.null, .null, .null, .null]) (fun j hj => by rcases (show j = 0 ∨ j = 1 ∨ j = 2 ∨ j = 3 by omega) with rfl | rfl | rfl | rfl <;> rfl) (Nat.le_of_ble_eq_true rfl) (Nat.le_of_ble_eq_true rfl) dL_law_0 (fun q1 => ?_)
    refine z_dup E dL_law_3 rfl ?_
    refine z_callI E hZ hO ((i_Lad l D cI cR cS cL q1).frR []) gL_law_X5_init (n := 0) rfl rfl rfl (w1 _ (List.mem_of_getElem? (i := 2) (by decide +kernel))) (w1 _ (List.mem_of_getElem? (i := 7) (by decide +kernel))) (w1 _ (List.mem_of_getElem? (i := 8) (by decide +kernel))) rfl (by decide +kernel) rfl ⟨(Nat.le_of_ble_eq_true rfl), (Nat.le_of_ble_eq_true rfl)⟩ (As := []) (rest := [.ref q1]) rfl (Nat.le_of_ble_eq_true rfl) ⟨(Nat.le_of_ble_eq_true rfl), (Nat.le_of_ble_eq_true rfl)⟩ dL_law_4 (fun ad hp => ?_)
    refine z_eq (ws' := cw ad cI cR cS cm0) (lv' := [(0, .ref b)]) (st' := [.ref (ad 106)]) rfl rfl (by rw [hp]) ?_
    refine z_astore_n (lv' := [(1, .ref (ad 106)), (0, .ref b)]) E dL_law_7 rfl (by decide) rfl ?_
    refine z_new E (C := RX6) (T := TX6) (N := 16) (ci := 6) inlX6 tyX6 tyX6_ok (w1 _ (List.mem_of_getElem? (i := 3) (by decide +kernel))) (w1 _ (List.mem_of_getElem? (i := 4) (by decide +kernel))) (w1 _ (List.mem_of_getElem? (i := 5) (by decide +kernel))) rfl (fs := [.int 0, .null, .null, .int 0, .null, .int 0, .int 0, .int 0, .int 0, .int 0, .int 0, .int 0, .int 0, .int 0, .int 0, .long 0]) (fun j hj => by rcases (show j = 0 ∨ j = 1 ∨ j = 2 ∨ j = 3 ∨ j = 4 ∨ j = 5 ∨ j = 6 ∨ j = 7 ∨ j = 8 ∨ j = 9 ∨ j = 10 ∨ j = 11 ∨ j = 12 ∨ j = 13 ∨ j = 14 ∨ j = 15 by omega) with rfl | rfl | rfl | rfl | rfl | rfl | rfl | rfl | rfl | rfl | rfl | rfl | rfl | rfl | rfl | rfl <;> rfl) (Nat.le_of_ble_eq_true rfl) (Nat.le_of_ble_eq_true rfl) dL_law_8 (fun q2 => ?_)
    refine z_dup E dL_law_11 rfl ?_
    refine z_callI E hZ hO ((i_Mod l D cI cR cS cL q2).frR (cw ad cI cR cS cm0)) gL_law_X6_init (n := 0) rfl rfl rfl (w1 _ (List.mem_of_getElem? (i := 5) (by decide +kernel))) (w4 _ (List.mem_of_getElem? (i := 7) (by decide +kernel))) (w4 _ (List.mem_of_getElem? (i := 8) (by decide +kernel))) rfl (by decide +kernel) rfl ⟨(Nat.le_of_ble_eq_true rfl), (Nat.le_of_ble_eq_true rfl)⟩ (As := []) (rest := [.ref q2]) rfl (Nat.le_of_ble_eq_true rfl) ⟨(Nat.le_of_ble_eq_true rfl), (Nat.le_of_ble_eq_true rfl)⟩ dL_law_12 (fun am hp2 => ?_)
    refine z_eq (ws' := cw ad cI cR cS cm0 ++ mw am cI 0 mm0) (lv' := [(1, .ref (ad 106)), (0, .ref b)]) (st' := [.ref (am 0)]) rfl rfl (by rw [hp2]) ?_
    refine z_astore_n (lv' := [(2, .ref (am 0)), (1, .ref (ad 106)), (0, .ref b)]) E dL_law_15 rfl (by decide) rfl ?_
    refine z_iconst (v := 1) E dL_law_16 (by decide) ?_
    refine z_newa E (atype := .long) (w1 _ (List.mem_of_getElem? (i := 6) (by decide +kernel))) rfl (fun C h => by cases h) 3 rfl (a0 := (1, .inr (.inl (fun _ => 0)))) (fun _ => rfl) (by decide) (N' := 1) rfl (by decide) (Nat.le_of_ble_eq_true rfl) (Nat.le_of_ble_eq_true rfl) dL_law_17 (fun o => ?_)
    refine z_swap3 ?_
    refine z_eq (ws' := mw am cI 0 mm0 ++ (cw ad cI cR cS cm0 ++ [oE cL o (fun _ => 0)])) (lv' := [(2, .ref (am 0)), (1, .ref (ad 106)), (0, .ref b)]) (st' := [.ref o]) rfl rfl rfl ?_
    refine z_astore_n (lv' := [(3, .ref o), (2, .ref (am 0)), (1, .ref (ad 106)), (0, .ref b)]) E dL_law_19 rfl (by decide) rfl ?_
    refine z_iconst (v := 0) E dL_law_20 (by decide) ?_
    refine z_istore (lv' := [(4, .int 0), (3, .ref o), (2, .ref (am 0)), (1, .ref (ad 106)), (0, .ref b)]) E dL_law_21 (by decide) rfl ?_
    refine z_lv [0, 4, 3, 2, 1] (lv' := [(4, .int (nI (5 * 0))), (0, .ref b), (1, .ref (ad 106)), (2, .ref (am 0)), (3, .ref o)]) rfl ?_
    refine z_cs (k := 112 + 0) (n := 1079 + 6 * 0) rfl rfl ?_
    exact law_loop hl0 E hZ hN hX hbl hbA hL KE 513 0 0 0 0 cm0 mm0 0 (fun _ => 0) (by omega) (by omega) zR_start
  have hl := lv_entry ([.ref b]) (n := 9) (Nat.le_of_ble_eq_true rfl)
  rw [lg_entry_eq]
  exact main s.heap [] _ (fun k q h => by simp at h) ⟨fun i j p q h => by simp at h, fun k q h => by simp at h⟩ va_S.rf hl
