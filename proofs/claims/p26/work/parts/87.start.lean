/-! the law's start -/
theorem zIN_start : zIN 0 cm0 := by
  refine ⟨fun k hk => ?_, fun i hi h7 => absurd ?_ h7, fun _ => 0, 0, fun i hi => ?_, by decide, Nat.le_refl 0, Nat.le_refl 0, Nat.le_refl 0⟩
  · rcases (show k = 0 ∨ k = 1 ∨ k = 2 ∨ k = 3 by omega) with rfl | rfl | rfl | rfl
    all_goals
      refine ⟨by unfold rFd; decide, 0, by omega, by decide, fun t ht => ⟨fun h => absurd h (by omega), fun _ => ?_⟩⟩
      rcases (show t = 0 ∨ t = 1 ∨ t = 2 by omega) with rfl | rfl | rfl <;> decide
  · rcases (show i = 0 ∨ i = 1 ∨ i = 2 ∨ i = 3 by omega) with rfl | rfl | rfl | rfl <;> decide
  · rcases (show i = 0 ∨ i = 1 ∨ i = 2 ∨ i = 3 by omega) with rfl | rfl | rfl | rfl <;> decide
set_option maxHeartbeats 8000000 in
set_option maxRecDepth 100000 in
theorem whole_start {p : Program} {e : Env} {s : State} {m : MethodId} {below : List Frame} {meth : Method} {c : Code} (l : Launch) (hflags : l.flags = flags0) {b L : Nat} {xs : Nat → Int32} (hL : L ≤ 260) (C0 : lw_At p s m meth c b L xs) : W p l e room_1 s m #[Value.ref b] below meth c s.heap [] 0 0 (lw_Z below #[Value.ref b] s) (entryFrame m ([Value.ref b] : List Value).toArray 10) := by
  obtain ⟨hx, hb, hr, hml, hown, hts, hX, hbl, hlocks, hgv⟩ := id C0
  have hf := flat_of_before _ hgv
  obtain ⟨D, cI, cR, cS, cL, hK⟩ := st_K hts
  have hA0 : ∀ a : Nat, a < s.heap.size → ¬ (fun q : Nat => s.heap.size ≤ q) a := fun a h => Nat.not_le.mpr h
  have hZ : zSK (fun q : Nat => s.heap.size ≤ q) s s.heap := st_Z hts hf hA0
  have hN : zNC s := st_nc hf
  have hO : zAO s := st_ao hts
  have hl0 : l.stackTraces = false := by unfold Launch.stackTraces; rw [hflags]; decide
  have hbA : ¬ (fun q : Nat => s.heap.size ≤ q) b := Nat.not_le.mpr hbl
  have E : zE p s m #[Value.ref b] c D (cK cI cR cS cL) (fun q : Nat => s.heap.size ≤ q) 10 cL_law RL wsL_law := ⟨hx, hb, hml, hown, fun w hw => hts w (wsL_law_in w hw), hK, fun _ h => h⟩
  have w1 : ∀ w ∈ wsL_law0_r1, w ∈ wsL_law := fun w h => (List.mem_append_left _ (List.mem_append_left _ (List.mem_append_left _ (List.mem_append_left _ (List.mem_append_left _ (List.mem_append_left _ (List.mem_append_left _ (List.mem_append_left _ (List.mem_append_left _ (List.mem_append_left _ (List.mem_append_left _ h)))))))))))
  have KE : ∀ (ws : va_W) (cells slots : Nat) (lv : List (Nat × Value)), cells ≤ 674598 → slots ≤ 7077831 → zW p l e room_1 s m #[Value.ref b] below meth c D (fun q : Nat => s.heap.size ≤ q) (lw_Z below #[Value.ref b] s) 10 ws cells slots 244 lv [.int 1] := by
    intro ws cells slots lv hc hs
    intro H locs ls hP hD hS hl
    exact va_forget hS.2.2 (W.widen hc hs (lw_ret (d0 := s.drawn) (Drawn.sameBut.refl s.drawn lw_cs) hx hb hr hlocks dL_law_244))
  have main : zW p l e room_1 s m #[Value.ref b] below meth c D (fun q : Nat => s.heap.size ≤ q) (lw_Z below #[Value.ref b] s) 10 [] 0 0 0 [(0, .ref b)] [] := by
    refine z_new E (C := RX5) (T := TX5) (N := 4) (ci := 5) inlX5 tyX5 tyX5_ok (w1 _ (List.mem_of_getElem? (i := 0) (by decide +kernel))) (w1 _ (List.mem_of_getElem? (i := 1) (by decide +kernel))) (w1 _ (List.mem_of_getElem? (i := 2) (by decide +kernel))) rfl (fs := [.null, .null, .null, .null]) (fun j hj => by rcases (show j = 0 ∨ j = 1 ∨ j = 2 ∨ j = 3 by omega) with rfl | rfl | rfl | rfl <;> rfl) (Nat.le_of_ble_eq_true rfl) (Nat.le_of_ble_eq_true rfl) dL_law_0 (fun q1 => ?_)
    refine z_dup E dL_law_3 rfl ?_
    refine z_callI E hZ hO ((i_Lad l D cI cR cS cL q1).frR []) gL_law_X5_init (n := 0) rfl rfl rfl (w1 _ (List.mem_of_getElem? (i := 2) (by decide +kernel))) (w1 _ (List.mem_of_getElem? (i := 4) (by decide +kernel))) (w1 _ (List.mem_of_getElem? (i := 5) (by decide +kernel))) rfl (by decide +kernel) rfl ⟨(Nat.le_of_ble_eq_true rfl), (Nat.le_of_ble_eq_true rfl)⟩ (As := []) (rest := [.ref q1]) rfl (Nat.le_of_ble_eq_true rfl) ⟨(Nat.le_of_ble_eq_true rfl), (Nat.le_of_ble_eq_true rfl)⟩ dL_law_4 (fun ad hp => ?_)
    refine z_eq (ws' := cw ad cI cR cS cm0) (lv' := [(0, .ref b)]) (st' := [.ref (ad 106)]) rfl rfl (by rw [hp]) ?_
    refine z_astore_n (lv' := [(1, .ref (ad 106)), (0, .ref b)]) E dL_law_7 rfl (by decide) rfl ?_
    refine z_new E (C := RX5) (T := TX5) (N := 4) (ci := 5) inlX5 tyX5 tyX5_ok (w1 _ (List.mem_of_getElem? (i := 0) (by decide +kernel))) (w1 _ (List.mem_of_getElem? (i := 1) (by decide +kernel))) (w1 _ (List.mem_of_getElem? (i := 2) (by decide +kernel))) rfl (fs := [.null, .null, .null, .null]) (fun j hj => by rcases (show j = 0 ∨ j = 1 ∨ j = 2 ∨ j = 3 by omega) with rfl | rfl | rfl | rfl <;> rfl) (Nat.le_of_ble_eq_true rfl) (Nat.le_of_ble_eq_true rfl) dL_law_8 (fun q2 => ?_)
    refine z_dup E dL_law_11 rfl ?_
    refine z_callI E hZ hO ((i_Lad l D cI cR cS cL q2).frR (cw ad cI cR cS cm0)) gL_law_X5_init (n := 0) rfl rfl rfl (w1 _ (List.mem_of_getElem? (i := 2) (by decide +kernel))) (w1 _ (List.mem_of_getElem? (i := 4) (by decide +kernel))) (w1 _ (List.mem_of_getElem? (i := 5) (by decide +kernel))) rfl (by decide +kernel) rfl ⟨(Nat.le_of_ble_eq_true rfl), (Nat.le_of_ble_eq_true rfl)⟩ (As := []) (rest := [.ref q2]) rfl (Nat.le_of_ble_eq_true rfl) ⟨(Nat.le_of_ble_eq_true rfl), (Nat.le_of_ble_eq_true rfl)⟩ dL_law_12 (fun ap hp2 => ?_)
    refine z_eq (ws' := cw ad cI cR cS cm0 ++ cw ap cI cR cS cm0) (lv' := [(1, .ref (ad 106)), (0, .ref b)]) (st' := [.ref (ap 106)]) rfl rfl (by rw [hp2]) ?_
    refine z_astore_n (lv' := [(2, .ref (ap 106)), (1, .ref (ad 106)), (0, .ref b)]) E dL_law_15 rfl (by decide) rfl ?_
    refine z_iconst (v := 1) E dL_law_16 (by decide) ?_
    refine z_newa E (atype := .int) (w1 _ (List.mem_of_getElem? (i := 3) (by decide +kernel))) rfl (fun C h => by cases h) 0 rfl (a0 := (1, .inl (fun _ => 0))) (fun _ => rfl) (by decide) (N' := 1) rfl (by decide) (Nat.le_of_ble_eq_true rfl) (Nat.le_of_ble_eq_true rfl) dL_law_17 (fun o => ?_)
    refine z_eq (ws' := cw ad cI cR cS cm0 ++ (cw ap cI cR cS cm0 ++ [iE cI o (fun _ => 0)])) (lv' := [(2, .ref (ap 106)), (1, .ref (ad 106)), (0, .ref b)]) (st' := [.ref o]) (List.append_assoc _ _ _) rfl rfl ?_
    refine z_astore_n (lv' := [(3, .ref o), (2, .ref (ap 106)), (1, .ref (ad 106)), (0, .ref b)]) E dL_law_19 rfl (by decide) rfl ?_
    refine z_iconst (v := 0) E dL_law_20 (by decide) ?_
    refine z_istore (lv' := [(4, .int 0), (3, .ref o), (2, .ref (ap 106)), (1, .ref (ad 106)), (0, .ref b)]) E dL_law_21 (by decide) rfl ?_
    refine z_lv [0, 4, 3, 2, 1] (lv' := [(4, .int (nI 0)), (0, .ref b), (1, .ref (ad 106)), (2, .ref (ap 106)), (3, .ref o)]) rfl ?_
    refine z_cs (k := 215 + 3 * 0) (n := 1193 + 18 * 0) rfl rfl ?_
    exact law_loop hl0 E hZ hN hX hbl hbA hL KE 44 0 0 0 0 0 cm0 cm0 (fun _ => 0) (by omega) ⟨by omega, by decide, by omega, by decide⟩ ⟨by omega, by decide, by omega, by decide⟩ (zSE.rfl' cm0) zIN_start
  have hl := lv_entry ([.ref b]) (n := 10) (Nat.le_of_ble_eq_true rfl)
  rw [lg_entry_eq]
  exact main s.heap [] _ (fun k q h => by simp at h) ⟨fun i j p q h => by simp at h, fun k q h => by simp at h⟩ va_S.rf hl
