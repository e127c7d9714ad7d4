/-! the whole digest -/
theorem zTr.cell {mem m : zM} (h : zTr mem m) {i : Nat} (hi : i < 84 ∨ 86 < i) : m i = mem i := h i hi
theorem zTr.people {mem m : zM} (h : zTr mem m) : fPeople m 0 = fPeople mem 0 := by
  unfold fPeople
  rw [h _ (by omega), h _ (by omega), h _ (by omega), h _ (by omega)]
theorem zTr.safe {mem m : zM} (h : zTr mem m) : fSafe m = fSafe mem := by
  unfold fSafe
  rw [h.people, h 87 (by omega)]
def zCodes (f : Nat → Int32) : Nat → List Int64
  | 0 => []
  | t + 1 => zCodes f t ++ [(f t).toInt64]
theorem zCodes_s (f : Nat → Int32) (t : Nat) : zCodes f (t + 1) = zCodes f t ++ [(f t).toInt64] := by rw [zCodes]
def zCnt (mem : zM) : List Int64 := [(fStanding mem 0).toInt64, (fPeople mem 0).toInt64, (fFalls mem 0).toInt64, (mem 87 1).toInt64, (mem 87 2).toInt64, (mem 101 2).toInt64]
def zHel (R : Nat → Int32) : List Int64 := [(fWGW R (-10)).toInt64, (fWGW R (0)).toInt64, (fWGW R (10)).toInt64]
def zDig (mem : zM) (pp : Nat → Nat) (bits : Int64) (L : Nat) : List Int64 := zCnt mem ++ (zLad (rv mem 0) (pp 0) ++ (zLad (rv mem 1) (pp 1) ++ (zLad (rv mem 2) (pp 2) ++ (zLad (rv mem 3) (pp 3) ++ (zHel (rv mem 0) ++ ([bits, (nI L).toInt64] ++ zCodes (mem 104) L))))))
theorem dCnt0 (mem : zM) : sCount mem 0 = (.inr (fStanding mem 0), mem) := if_pos rfl
theorem dCnt1 (mem : zM) : sCount mem 1 = (.inr (fPeople mem 0), mem) := (if_neg (by decide)).trans (if_pos rfl)
theorem dCnt2 (mem : zM) : sCount mem 2 = (.inr (fFalls mem 0), mem) := (if_neg (by decide)).trans ((if_neg (by decide)).trans (if_pos rfl))
theorem dCnt3 (mem : zM) : sCount mem 3 = (.inr (mem 87 1), mem) := (if_neg (by decide)).trans ((if_neg (by decide)).trans ((if_neg (by decide)).trans (if_pos rfl)))
theorem dCnt4 (mem : zM) : sCount mem 4 = (.inr (mem 87 2), mem) := (if_neg (by decide)).trans ((if_neg (by decide)).trans ((if_neg (by decide)).trans ((if_neg (by decide)).trans (if_pos rfl))))
theorem dCnt5 (mem : zM) : sCount mem 5 = (.inr (mem 101 2), mem) := (if_neg (by decide)).trans ((if_neg (by decide)).trans ((if_neg (by decide)).trans ((if_neg (by decide)).trans ((if_neg (by decide)).trans (if_pos rfl)))))
theorem dHeld {mem m : zM} (htr : zTr mem m) (f : Int32) (hf : ¬ (f < -1000 ∨ 1000 < f)) : sHeld m 0 f = (.inr (fWGW (rv mem 0) f), m) := by
  rw [← htr.rv (j := 0) (by omega)]
  exact (if_neg (by decide)).trans (if_neg hf)
theorem zMi_mono {l : Launch} {y : MethodName} {wl : List Cond} {rm : Room} {D : va_G} {tys : List (ClassId × FieldType)} {av : List Value} {ws : va_W} {S : Type} {post post2 : Int32 → S → Prop} {out : S → va_W} {mc ms : Nat} (h : zMi l y wl rm D tys av ws post out mc ms) (hp : ∀ r u, post r u → post2 r u) : zMi l y wl rm D tys av ws post2 out mc ms := fun sz => Jvm.Free.MetFree.mono (h sz) (fun _ _ h => h) (fun _ _ _ _ _ h => h) (fun _ _ _ _ _ ⟨⟨⟨r, u, e, hq, hb⟩, hf⟩, hL⟩ => ⟨⟨⟨r, u, e, hp r u hq, hb⟩, hf⟩, hL⟩)
theorem zMl_mono {l : Launch} {y : MethodName} {wl : List Cond} {rm : Room} {D : va_G} {tys : List (ClassId × FieldType)} {av : List Value} {ws : va_W} {S : Type} {post post2 : Int64 → S → Prop} {out : S → va_W} {mc ms : Nat} (h : zMl l y wl rm D tys av ws post out mc ms) (hp : ∀ r u, post r u → post2 r u) : zMl l y wl rm D tys av ws post2 out mc ms := fun sz => Jvm.Free.MetFree.mono (h sz) (fun _ _ h => h) (fun _ _ _ _ _ h => h) (fun _ _ _ _ _ ⟨⟨⟨r, u, e, hq, hb⟩, hf⟩, hL⟩ => ⟨⟨⟨r, u, e, hp r u hq, hb⟩, hf⟩, hL⟩)
theorem k_bits (l : Launch) (D : va_G) (ad : Nat → Nat) (cI cR cS cL : ClassId) (mem : zM) {v : UInt64} (hv : zShare v) : zMl l yX5_bitsOf wsX5_bitsOf ({ frames := 0, cells := 0, slots := 0, locals := 0 }) D (cK cI cR cS cL) [.double v] (cw ad cI cR cS mem) (fun r u => zBitsR v r ∧ u = mem) (cw ad cI cR cS) 0 0 := by
  rcases hv with h | ⟨c, q, h, h1, h2⟩
  · subst h
    exact zMl_mono (k_bits0 l D ad cI cR cS cL mem) (fun r u hp => ⟨Or.inl ⟨rfl, hp.1⟩, hp.2⟩)
  · obtain ⟨n, hn⟩ : ∃ n : Nat, q = -52 - (n : Int) := ⟨(-52 - q).toNat, by omega⟩
    subst hn
    exact zMl_mono (k_bitsN l D ad cI cR cS cL mem (n := n) (by omega) h) (fun r u hp => ⟨Or.inr ⟨c, n, h, by omega, hp.1⟩, hp.2⟩)
set_option maxHeartbeats 1000000 in
set_option maxRecDepth 100000 in
theorem k_digest (l : Launch) (D : va_G) (ad : Nat → Nat) (cI cR cS cL : ClassId) (mem : zM) (hl : l.stackTraces = false) {pp : Nat → Nat} (hpp : ∀ i, i < 4 → pp i ≤ 3) (h7 : ∀ i, i < 4 → rv mem i 7 = nI (pp i)) (h3 : ∀ i, i < 4 → ∃ a, a ≤ 3 ∧ mem (3 * i) 7 = nI a) (hA : ∀ i, i < 4 → ∀ t, t < 3 → ∃ a, a ≤ 10 ∧ mem (3 * i + 2) t = nI a) (hnn : ¬ fPeople mem 0 + mem 87 1 = 0 → vf_n64 (FP.ddiv (FP.i2d (fPeople mem 0)) (FP.i2d (fPeople mem 0 + mem 87 1)))) (hsh : zShare (fSafe mem)) {L : Nat} (hL : L ≤ 60) (hlen : mem 103 1 = nI L) : zMl l yX5_digest wsX5_digest ({ frames := 9, cells := 0, slots := 0, locals := 164 }) D (cK cI cR cS cL) [.ref (ad 106)] (cw ad cI cR cS mem) (fun r u => ∃ bits, zBitsR (fSafe mem) bits ∧ r = zMx 3617 (zDig mem pp bits L) ∧ zTr mem u) (cw ad cI cR cS) 0 0 := by
  refine zMlM.of (cc := cX5_digest) (maxL := 4) (ret := (some .long)) (by decide +kernel) rfl (lv0 := [(0, .ref (ad 106))]) (Nat.le_of_ble_eq_true rfl) rfl ?_
  intro p e s m args below meth c E hZ hr hlocks hnm
  refine z_ldc2 (v := 3617) E dX5_digest_0 (List.mem_of_getElem? (i := 1) (by decide +kernel)) ?_
  refine z_lstore_n (lv' := [(1, .long 3617), (0, .ref (ad 106))]) E dX5_digest_3 rfl (by decide) rfl ?_
  refine z_iconst (v := 0) E dX5_digest_4 (by decide) ?_
  refine z_istore_n (lv' := [(3, .int 0), (1, .long 3617), (0, .ref (ad 106))]) E dX5_digest_5 rfl (by decide) rfl ?_
  refine z_iload_n E dX5_digest_6 rfl 0 rfl ?_
  refine z_iconst (v := 5) E dX5_digest_7 (by decide) ?_
  refine z_icmp_gt_f (tgt := 28) E dX5_digest_8 (by decide) (by decide) ?_
  refine z_lload_n E dX5_digest_11 rfl 1 rfl ?_
  refine z_aload_n E dX5_digest_12 rfl 2 rfl ?_
  refine z_iload_n E dX5_digest_13 rfl 0 rfl ?_
  refine z_callViN E hZ (k_count l D ad cI cR cS cL mem (c0 := 0) (s0 := 0) hl 0  (fun E u h => zno (dCnt0 mem) h)) gX5_digest_X5_count (n := 1) rfl rfl rfl (by decide +kernel) rfl ⟨(Nat.le_of_ble_eq_true rfl), (Nat.le_of_ble_eq_true rfl)⟩ (C := RX5) rfl 106 cw_lad (As := [.int 0]) (rest := [.long 3617]) rfl (Nat.le_of_ble_eq_true rfl) ⟨(Nat.le_of_ble_eq_true rfl), (Nat.le_of_ble_eq_true rfl)⟩ dX5_digest_14 (fun E u h => zno (dCnt0 mem) h) (fun r u hp => ?_)
  rw [(zyes (dCnt0 mem) hp).1, (zyes (dCnt0 mem) hp).2]
  refine z_i2l (v := (fStanding mem 0).toInt64) E dX5_digest_17 rfl ?_
  refine z_callSl E hZ (k_mix l D ad cI cR cS cL mem 3617 ((fStanding mem 0).toInt64)) gX5_digest_X5_mix (n := 2) rfl rfl rfl (by decide +kernel) rfl ⟨(Nat.le_of_ble_eq_true rfl), (Nat.le_of_ble_eq_true rfl)⟩ (As := [.long 3617, .long ((fStanding mem 0).toInt64)]) (rest := []) rfl (Nat.le_of_ble_eq_true rfl) ⟨(Nat.le_of_ble_eq_true rfl), (Nat.le_of_ble_eq_true rfl)⟩ dX5_digest_18 (fun g1 u hg1 => ?_)
  rw [hg1.2]
  refine z_lstore_n (lv' := [(1, .long g1), (3, .int 0), (0, .ref (ad 106))]) E dX5_digest_21 rfl (by decide) rfl ?_
  refine z_iinc (v := 1) (lv' := [(3, .int 1), (1, .long g1), (0, .ref (ad 106))]) E dX5_digest_22 (q := 1) rfl (by decide) (by decide) rfl ?_
  refine z_goto (tgt := 6) E dX5_digest_25 (by decide) ?_
  refine z_iload_n E dX5_digest_6 rfl 0 rfl ?_
  refine z_iconst (v := 5) E dX5_digest_7 (by decide) ?_
  refine z_icmp_gt_f (tgt := 28) E dX5_digest_8 (by decide) (by decide) ?_
  refine z_lload_n E dX5_digest_11 rfl 1 rfl ?_
  refine z_aload_n E dX5_digest_12 rfl 2 rfl ?_
  refine z_iload_n E dX5_digest_13 rfl 0 rfl ?_
  refine z_callViN E hZ (k_count l D ad cI cR cS cL mem (c0 := 0) (s0 := 0) hl 1  (fun E u h => zno (dCnt1 mem) h)) gX5_digest_X5_count (n := 1) rfl rfl rfl (by decide +kernel) rfl ⟨(Nat.le_of_ble_eq_true rfl), (Nat.le_of_ble_eq_true rfl)⟩ (C := RX5) rfl 106 cw_lad (As := [.int 1]) (rest := [.long g1]) rfl (Nat.le_of_ble_eq_true rfl) ⟨(Nat.le_of_ble_eq_true rfl), (Nat.le_of_ble_eq_true rfl)⟩ dX5_digest_14 (fun E u h => zno (dCnt1 mem) h) (fun r u hp => ?_)
  rw [(zyes (dCnt1 mem) hp).1, (zyes (dCnt1 mem) hp).2]
  refine z_i2l (v := (fPeople mem 0).toInt64) E dX5_digest_17 rfl ?_
  refine z_callSl E hZ (k_mix l D ad cI cR cS cL mem g1 ((fPeople mem 0).toInt64)) gX5_digest_X5_mix (n := 2) rfl rfl rfl (by decide +kernel) rfl ⟨(Nat.le_of_ble_eq_true rfl), (Nat.le_of_ble_eq_true rfl)⟩ (As := [.long g1, .long ((fPeople mem 0).toInt64)]) (rest := []) rfl (Nat.le_of_ble_eq_true rfl) ⟨(Nat.le_of_ble_eq_true rfl), (Nat.le_of_ble_eq_true rfl)⟩ dX5_digest_18 (fun g2 u hg2 => ?_)
  rw [hg2.2]
  refine z_lstore_n (lv' := [(1, .long g2), (3, .int 1), (0, .ref (ad 106))]) E dX5_digest_21 rfl (by decide) rfl ?_
  refine z_iinc (v := 2) (lv' := [(3, .int 2), (1, .long g2), (0, .ref (ad 106))]) E dX5_digest_22 (q := 1) rfl (by decide) (by decide) rfl ?_
  refine z_goto (tgt := 6) E dX5_digest_25 (by decide) ?_
  refine z_iload_n E dX5_digest_6 rfl 0 rfl ?_
  refine z_iconst (v := 5) E dX5_digest_7 (by decide) ?_
  refine z_icmp_gt_f (tgt := 28) E dX5_digest_8 (by decide) (by decide) ?_
  refine z_lload_n E dX5_digest_11 rfl 1 rfl ?_
  refine z_aload_n E dX5_digest_12 rfl 2 rfl ?_
  refine z_iload_n E dX5_digest_13 rfl 0 rfl ?_
  refine z_callViN E hZ (k_count l D ad cI cR cS cL mem (c0 := 0) (s0 := 0) hl 2  (fun E u h => zno (dCnt2 mem) h)) gX5_digest_X5_count (n := 1) rfl rfl rfl (by decide +kernel) rfl ⟨(Nat.le_of_ble_eq_true rfl), (Nat.le_of_ble_eq_true rfl)⟩ (C := RX5) rfl 106 cw_lad (As := [.int 2]) (rest := [.long g2]) rfl (Nat.le_of_ble_eq_true rfl) ⟨(Nat.le_of_ble_eq_true rfl), (Nat.le_of_ble_eq_true rfl)⟩ dX5_digest_14 (fun E u h => zno (dCnt2 mem) h) (fun r u hp => ?_)
  rw [(zyes (dCnt2 mem) hp).1, (zyes (dCnt2 mem) hp).2]
  refine z_i2l (v := (fFalls mem 0).toInt64) E dX5_digest_17 rfl ?_
  refine z_callSl E hZ (k_mix l D ad cI cR cS cL mem g2 ((fFalls mem 0).toInt64)) gX5_digest_X5_mix (n := 2) rfl rfl rfl (by decide +kernel) rfl ⟨(Nat.le_of_ble_eq_true rfl), (Nat.le_of_ble_eq_true rfl)⟩ (As := [.long g2, .long ((fFalls mem 0).toInt64)]) (rest := []) rfl (Nat.le_of_ble_eq_true rfl) ⟨(Nat.le_of_ble_eq_true rfl), (Nat.le_of_ble_eq_true rfl)⟩ dX5_digest_18 (fun g3 u hg3 => ?_)
  rw [hg3.2]
  refine z_lstore_n (lv' := [(1, .long g3), (3, .int 2), (0, .ref (ad 106))]) E dX5_digest_21 rfl (by decide) rfl ?_
  refine z_iinc (v := 3) (lv' := [(3, .int 3), (1, .long g3), (0, .ref (ad 106))]) E dX5_digest_22 (q := 1) rfl (by decide) (by decide) rfl ?_
  refine z_goto (tgt := 6) E dX5_digest_25 (by decide) ?_
  refine z_iload_n E dX5_digest_6 rfl 0 rfl ?_
  refine z_iconst (v := 5) E dX5_digest_7 (by decide) ?_
  refine z_icmp_gt_f (tgt := 28) E dX5_digest_8 (by decide) (by decide) ?_
  refine z_lload_n E dX5_digest_11 rfl 1 rfl ?_
  refine z_aload_n E dX5_digest_12 rfl 2 rfl ?_
  refine z_iload_n E dX5_digest_13 rfl 0 rfl ?_
  refine z_callViN E hZ (k_count l D ad cI cR cS cL mem (c0 := 0) (s0 := 0) hl 3  (fun E u h => zno (dCnt3 mem) h)) gX5_digest_X5_count (n := 1) rfl rfl rfl (by decide +kernel) rfl ⟨(Nat.le_of_ble_eq_true rfl), (Nat.le_of_ble_eq_true rfl)⟩ (C := RX5) rfl 106 cw_lad (As := [.int 3]) (rest := [.long g3]) rfl (Nat.le_of_ble_eq_true rfl) ⟨(Nat.le_of_ble_eq_true rfl), (Nat.le_of_ble_eq_true rfl)⟩ dX5_digest_14 (fun E u h => zno (dCnt3 mem) h) (fun r u hp => ?_)
  rw [(zyes (dCnt3 mem) hp).1, (zyes (dCnt3 mem) hp).2]
  refine z_i2l (v := (mem 87 1).toInt64) E dX5_digest_17 rfl ?_
  refine z_callSl E hZ (k_mix l D ad cI cR cS cL mem g3 ((mem 87 1).toInt64)) gX5_digest_X5_mix (n := 2) rfl rfl rfl (by decide +kernel) rfl ⟨(Nat.le_of_ble_eq_true rfl), (Nat.le_of_ble_eq_true rfl)⟩ (As := [.long g3, .long ((mem 87 1).toInt64)]) (rest := []) rfl (Nat.le_of_ble_eq_true rfl) ⟨(Nat.le_of_ble_eq_true rfl), (Nat.le_of_ble_eq_true rfl)⟩ dX5_digest_18 (fun g4 u hg4 => ?_)
  rw [hg4.2]
  refine z_lstore_n (lv' := [(1, .long g4), (3, .int 3), (0, .ref (ad 106))]) E dX5_digest_21 rfl (by decide) rfl ?_
  refine z_iinc (v := 4) (lv' := [(3, .int 4), (1, .long g4), (0, .ref (ad 106))]) E dX5_digest_22 (q := 1) rfl (by decide) (by decide) rfl ?_
  refine z_goto (tgt := 6) E dX5_digest_25 (by decide) ?_
  refine z_iload_n E dX5_digest_6 rfl 0 rfl ?_
  refine z_iconst (v := 5) E dX5_digest_7 (by decide) ?_
  refine z_icmp_gt_f (tgt := 28) E dX5_digest_8 (by decide) (by decide) ?_
  refine z_lload_n E dX5_digest_11 rfl 1 rfl ?_
  refine z_aload_n E dX5_digest_12 rfl 2 rfl ?_
  refine z_iload_n E dX5_digest_13 rfl 0 rfl ?_
  refine z_callViN E hZ (k_count l D ad cI cR cS cL mem (c0 := 0) (s0 := 0) hl 4  (fun E u h => zno (dCnt4 mem) h)) gX5_digest_X5_count (n := 1) rfl rfl rfl (by decide +kernel) rfl ⟨(Nat.le_of_ble_eq_true rfl), (Nat.le_of_ble_eq_true rfl)⟩ (C := RX5) rfl 106 cw_lad (As := [.int 4]) (rest := [.long g4]) rfl (Nat.le_of_ble_eq_true rfl) ⟨(Nat.le_of_ble_eq_true rfl), (Nat.le_of_ble_eq_true rfl)⟩ dX5_digest_14 (fun E u h => zno (dCnt4 mem) h) (fun r u hp => ?_)
  rw [(zyes (dCnt4 mem) hp).1, (zyes (dCnt4 mem) hp).2]
  refine z_i2l (v := (mem 87 2).toInt64) E dX5_digest_17 rfl ?_
  refine z_callSl E hZ (k_mix l D ad cI cR cS cL mem g4 ((mem 87 2).toInt64)) gX5_digest_X5_mix (n := 2) rfl rfl rfl (by decide +kernel) rfl ⟨(Nat.le_of_ble_eq_true rfl), (Nat.le_of_ble_eq_true rfl)⟩ (As := [.long g4, .long ((mem 87 2).toInt64)]) (rest := []) rfl (Nat.le_of_ble_eq_true rfl) ⟨(Nat.le_of_ble_eq_true rfl), (Nat.le_of_ble_eq_true rfl)⟩ dX5_digest_18 (fun g5 u hg5 => ?_)
  rw [hg5.2]
  refine z_lstore_n (lv' := [(1, .long g5), (3, .int 4), (0, .ref (ad 106))]) E dX5_digest_21 rfl (by decide) rfl ?_
  refine z_iinc (v := 5) (lv' := [(3, .int 5), (1, .long g5), (0, .ref (ad 106))]) E dX5_digest_22 (q := 1) rfl (by decide) (by decide) rfl ?_
  refine z_goto (tgt := 6) E dX5_digest_25 (by decide) ?_
  refine z_iload_n E dX5_digest_6 rfl 0 rfl ?_
  refine z_iconst (v := 5) E dX5_digest_7 (by decide) ?_
  refine z_icmp_gt_f (tgt := 28) E dX5_digest_8 (by decide) (by decide) ?_
  refine z_lload_n E dX5_digest_11 rfl 1 rfl ?_
  refine z_aload_n E dX5_digest_12 rfl 2 rfl ?_
  refine z_iload_n E dX5_digest_13 rfl 0 rfl ?_
  refine z_callViN E hZ (k_count l D ad cI cR cS cL mem (c0 := 0) (s0 := 0) hl 5  (fun E u h => zno (dCnt5 mem) h)) gX5_digest_X5_count (n := 1) rfl rfl rfl (by decide +kernel) rfl ⟨(Nat.le_of_ble_eq_true rfl), (Nat.le_of_ble_eq_true rfl)⟩ (C := RX5) rfl 106 cw_lad (As := [.int 5]) (rest := [.long g5]) rfl (Nat.le_of_ble_eq_true rfl) ⟨(Nat.le_of_ble_eq_true rfl), (Nat.le_of_ble_eq_true rfl)⟩ dX5_digest_14 (fun E u h => zno (dCnt5 mem) h) (fun r u hp => ?_)
  rw [(zyes (dCnt5 mem) hp).1, (zyes (dCnt5 mem) hp).2]
  refine z_i2l (v := (mem 101 2).toInt64) E dX5_digest_17 rfl ?_
  refine z_callSl E hZ (k_mix l D ad cI cR cS cL mem g5 ((mem 101 2).toInt64)) gX5_digest_X5_mix (n := 2) rfl rfl rfl (by decide +kernel) rfl ⟨(Nat.le_of_ble_eq_true rfl), (Nat.le_of_ble_eq_true rfl)⟩ (As := [.long g5, .long ((mem 101 2).toInt64)]) (rest := []) rfl (Nat.le_of_ble_eq_true rfl) ⟨(Nat.le_of_ble_eq_true rfl), (Nat.le_of_ble_eq_true rfl)⟩ dX5_digest_18 (fun g6 u hg6 => ?_)
  rw [hg6.2]
  refine z_lstore_n (lv' := [(1, .long g6), (3, .int 5), (0, .ref (ad 106))]) E dX5_digest_21 rfl (by decide) rfl ?_
  refine z_iinc (v := 6) (lv' := [(3, .int 6), (1, .long g6), (0, .ref (ad 106))]) E dX5_digest_22 (q := 1) rfl (by decide) (by decide) rfl ?_
  refine z_goto (tgt := 6) E dX5_digest_25 (by decide) ?_
  refine z_iload_n E dX5_digest_6 rfl 0 rfl ?_
  refine z_iconst (v := 5) E dX5_digest_7 (by decide) ?_
  refine z_icmp_gt_t (tgt := 28) E dX5_digest_8 (by decide) (by decide) ?_
  refine z_iconst (v := 0) E dX5_digest_28 (by decide) ?_
  refine z_istore_n (lv' := [(3, .int 0), (1, .long g6), (0, .ref (ad 106))]) E dX5_digest_29 rfl (by decide) rfl ?_
  have e1 : g6 = zMx 3617 (zCnt mem) := by rw [hg6.1, hg5.1, hg4.1, hg3.1, hg2.1, hg1.1]; rfl
  refine z_iload_n E dX5_digest_30 rfl 0 rfl ?_
  refine z_iconst (v := 4) E dX5_digest_31 (by decide) ?_
  refine z_icmp_ge_f (tgt := 48) E dX5_digest_32 (by decide) (by decide) ?_
  refine z_aload_n E dX5_digest_35 rfl 2 rfl ?_
  refine z_lload_n E dX5_digest_36 rfl 1 rfl ?_
  refine z_iload_n E dX5_digest_37 rfl 0 rfl ?_
  refine z_callVl E hZ (k_mixLadder l D ad cI cR cS cL mem hl (k := 0) (by omega) g6 (hpp 0 (by omega)) (by rw [zTr.rfl'.rv (by omega)]; exact h7 0 (by omega)) (zTr3 zTr.rfl' h3) (zTrA zTr.rfl' hA)) gX5_digest_X5_mixLadder (n := 2) rfl rfl rfl (by decide +kernel) rfl ⟨(Nat.le_of_ble_eq_true rfl), (Nat.le_of_ble_eq_true rfl)⟩ (C := RX5) rfl 106 cw_lad (As := [.long g6, .int (nI 0)]) (rest := []) rfl (Nat.le_of_ble_eq_true rfl) ⟨(Nat.le_of_ble_eq_true rfl), (Nat.le_of_ble_eq_true rfl)⟩ dX5_digest_38 (fun g7 m8 hp => ?_)
  have tm8 : zTr mem m8 := zTr.rfl'.trans hp.2
  have hg7 : g7 = zMx g6 (zLad (rv mem 0) (pp 0)) := by rw [hp.1, zTr.rfl'.rv (by omega)]
  refine z_lstore_n (lv' := [(1, .long g7), (3, .int 0), (0, .ref (ad 106))]) E dX5_digest_41 rfl (by decide) rfl ?_
  refine z_iinc (v := 1) (lv' := [(3, .int 1), (1, .long g7), (0, .ref (ad 106))]) E dX5_digest_42 (q := 1) rfl (by decide) (by decide) rfl ?_
  refine z_goto (tgt := 30) E dX5_digest_45 (by decide) ?_
  refine z_iload_n E dX5_digest_30 rfl 0 rfl ?_
  refine z_iconst (v := 4) E dX5_digest_31 (by decide) ?_
  refine z_icmp_ge_f (tgt := 48) E dX5_digest_32 (by decide) (by decide) ?_
  refine z_aload_n E dX5_digest_35 rfl 2 rfl ?_
  refine z_lload_n E dX5_digest_36 rfl 1 rfl ?_
  refine z_iload_n E dX5_digest_37 rfl 0 rfl ?_
  refine z_callVl E hZ (k_mixLadder l D ad cI cR cS cL m8 hl (k := 1) (by omega) g7 (hpp 1 (by omega)) (by rw [tm8.rv (by omega)]; exact h7 1 (by omega)) (zTr3 tm8 h3) (zTrA tm8 hA)) gX5_digest_X5_mixLadder (n := 2) rfl rfl rfl (by decide +kernel) rfl ⟨(Nat.le_of_ble_eq_true rfl), (Nat.le_of_ble_eq_true rfl)⟩ (C := RX5) rfl 106 cw_lad (As := [.long g7, .int (nI 1)]) (rest := []) rfl (Nat.le_of_ble_eq_true rfl) ⟨(Nat.le_of_ble_eq_true rfl), (Nat.le_of_ble_eq_true rfl)⟩ dX5_digest_38 (fun g9 m10 hp => ?_)
  have tm10 : zTr mem m10 := tm8.trans hp.2
  have hg9 : g9 = zMx g7 (zLad (rv mem 1) (pp 1)) := by rw [hp.1, tm8.rv (by omega)]
  refine z_lstore_n (lv' := [(1, .long g9), (3, .int 1), (0, .ref (ad 106))]) E dX5_digest_41 rfl (by decide) rfl ?_
  refine z_iinc (v := 2) (lv' := [(3, .int 2), (1, .long g9), (0, .ref (ad 106))]) E dX5_digest_42 (q := 1) rfl (by decide) (by decide) rfl ?_
  refine z_goto (tgt := 30) E dX5_digest_45 (by decide) ?_
  refine z_iload_n E dX5_digest_30 rfl 0 rfl ?_
  refine z_iconst (v := 4) E dX5_digest_31 (by decide) ?_
  refine z_icmp_ge_f (tgt := 48) E dX5_digest_32 (by decide) (by decide) ?_
  refine z_aload_n E dX5_digest_35 rfl 2 rfl ?_
  refine z_lload_n E dX5_digest_36 rfl 1 rfl ?_
  refine z_iload_n E dX5_digest_37 rfl 0 rfl ?_
  refine z_callVl E hZ (k_mixLadder l D ad cI cR cS cL m10 hl (k := 2) (by omega) g9 (hpp 2 (by omega)) (by rw [tm10.rv (by omega)]; exact h7 2 (by omega)) (zTr3 tm10 h3) (zTrA tm10 hA)) gX5_digest_X5_mixLadder (n := 2) rfl rfl rfl (by decide +kernel) rfl ⟨(Nat.le_of_ble_eq_true rfl), (Nat.le_of_ble_eq_true rfl)⟩ (C := RX5) rfl 106 cw_lad (As := [.long g9, .int (nI 2)]) (rest := []) rfl (Nat.le_of_ble_eq_true rfl) ⟨(Nat.le_of_ble_eq_true rfl), (Nat.le_of_ble_eq_true rfl)⟩ dX5_digest_38 (fun g11 m12 hp => ?_)
  have tm12 : zTr mem m12 := tm10.trans hp.2
  have hg11 : g11 = zMx g9 (zLad (rv mem 2) (pp 2)) := by rw [hp.1, tm10.rv (by omega)]
  refine z_lstore_n (lv' := [(1, .long g11), (3, .int 2), (0, .ref (ad 106))]) E dX5_digest_41 rfl (by decide) rfl ?_
  refine z_iinc (v := 3) (lv' := [(3, .int 3), (1, .long g11), (0, .ref (ad 106))]) E dX5_digest_42 (q := 1) rfl (by decide) (by decide) rfl ?_
  refine z_goto (tgt := 30) E dX5_digest_45 (by decide) ?_
  refine z_iload_n E dX5_digest_30 rfl 0 rfl ?_
  refine z_iconst (v := 4) E dX5_digest_31 (by decide) ?_
  refine z_icmp_ge_f (tgt := 48) E dX5_digest_32 (by decide) (by decide) ?_
  refine z_aload_n E dX5_digest_35 rfl 2 rfl ?_
  refine z_lload_n E dX5_digest_36 rfl 1 rfl ?_
  refine z_iload_n E dX5_digest_37 rfl 0 rfl ?_
  refine z_callVl E hZ (k_mixLadder l D ad cI cR cS cL m12 hl (k := 3) (by omega) g11 (hpp 3 (by omega)) (by rw [tm12.rv (by omega)]; exact h7 3 (by omega)) (zTr3 tm12 h3) (zTrA tm12 hA)) gX5_digest_X5_mixLadder (n := 2) rfl rfl rfl (by decide +kernel) rfl ⟨(Nat.le_of_ble_eq_true rfl), (Nat.le_of_ble_eq_true rfl)⟩ (C := RX5) rfl 106 cw_lad (As := [.long g11, .int (nI 3)]) (rest := []) rfl (Nat.le_of_ble_eq_true rfl) ⟨(Nat.le_of_ble_eq_true rfl), (Nat.le_of_ble_eq_true rfl)⟩ dX5_digest_38 (fun g13 m14 hp => ?_)
  have tm14 : zTr mem m14 := tm12.trans hp.2
  have hg13 : g13 = zMx g11 (zLad (rv mem 3) (pp 3)) := by rw [hp.1, tm12.rv (by omega)]
  refine z_lstore_n (lv' := [(1, .long g13), (3, .int 3), (0, .ref (ad 106))]) E dX5_digest_41 rfl (by decide) rfl ?_
  refine z_iinc (v := 4) (lv' := [(3, .int 4), (1, .long g13), (0, .ref (ad 106))]) E dX5_digest_42 (q := 1) rfl (by decide) (by decide) rfl ?_
  refine z_goto (tgt := 30) E dX5_digest_45 (by decide) ?_
  refine z_iload_n E dX5_digest_30 rfl 0 rfl ?_
  refine z_iconst (v := 4) E dX5_digest_31 (by decide) ?_
  refine z_icmp_ge_t (tgt := 48) E dX5_digest_32 (by decide) (by decide) ?_
  refine z_bipush (v := -10) E dX5_digest_48 (by decide) ?_
  refine z_istore_n (lv' := [(3, .int (-10)), (1, .long g13), (0, .ref (ad 106))]) E dX5_digest_50 rfl (by decide) rfl ?_
  refine z_iload_n E dX5_digest_51 rfl 0 rfl ?_
  refine z_bipush (v := 10) E dX5_digest_52 (by decide) ?_
  refine z_icmp_gt_f (tgt := 75) E dX5_digest_54 (by decide) (by decide) ?_
  refine z_lload_n E dX5_digest_57 rfl 1 rfl ?_
  refine z_aload_n E dX5_digest_58 rfl 2 rfl ?_
  refine z_iconst (v := 0) E dX5_digest_59 (by decide) ?_
  refine z_iload_n E dX5_digest_60 rfl 0 rfl ?_
  refine z_callViN E hZ (k_held l D ad cI cR cS cL m14 (c0 := 0) (s0 := 0) hl 0 (-10)  (fun E u h => zno (dHeld tm14 (-10) (by decide)) h)) gX5_digest_X5_held (n := 2) rfl rfl rfl (by decide +kernel) rfl ⟨(Nat.le_of_ble_eq_true rfl), (Nat.le_of_ble_eq_true rfl)⟩ (C := RX5) rfl 106 cw_lad (As := [.int 0, .int (-10)]) (rest := [.long g13]) rfl (Nat.le_of_ble_eq_true rfl) ⟨(Nat.le_of_ble_eq_true rfl), (Nat.le_of_ble_eq_true rfl)⟩ dX5_digest_61 (fun E u h => zno (dHeld tm14 (-10) (by decide)) h) (fun r u hp => ?_)
  rw [(zyes (dHeld tm14 (-10) (by decide)) hp).1, (zyes (dHeld tm14 (-10) (by decide)) hp).2]
  refine z_i2l (v := (fWGW (rv mem 0) (-10)).toInt64) E dX5_digest_64 rfl ?_
  refine z_callSl E hZ (k_mix l D ad cI cR cS cL m14 g13 ((fWGW (rv mem 0) (-10)).toInt64)) gX5_digest_X5_mix (n := 2) rfl rfl rfl (by decide +kernel) rfl ⟨(Nat.le_of_ble_eq_true rfl), (Nat.le_of_ble_eq_true rfl)⟩ (As := [.long g13, .long ((fWGW (rv mem 0) (-10)).toInt64)]) (rest := []) rfl (Nat.le_of_ble_eq_true rfl) ⟨(Nat.le_of_ble_eq_true rfl), (Nat.le_of_ble_eq_true rfl)⟩ dX5_digest_65 (fun g15 u hg15 => ?_)
  rw [hg15.2]
  refine z_lstore_n (lv' := [(1, .long g15), (3, .int (-10)), (0, .ref (ad 106))]) E dX5_digest_68 rfl (by decide) rfl ?_
  refine z_iinc (v := 0) (lv' := [(3, .int 0), (1, .long g15), (0, .ref (ad 106))]) E dX5_digest_69 (q := 1) rfl (by decide) (by decide) rfl ?_
  refine z_goto (tgt := 51) E dX5_digest_72 (by decide) ?_
  refine z_iload_n E dX5_digest_51 rfl 0 rfl ?_
  refine z_bipush (v := 10) E dX5_digest_52 (by decide) ?_
  refine z_icmp_gt_f (tgt := 75) E dX5_digest_54 (by decide) (by decide) ?_
  refine z_lload_n E dX5_digest_57 rfl 1 rfl ?_
  refine z_aload_n E dX5_digest_58 rfl 2 rfl ?_
  refine z_iconst (v := 0) E dX5_digest_59 (by decide) ?_
  refine z_iload_n E dX5_digest_60 rfl 0 rfl ?_
  refine z_callViN E hZ (k_held l D ad cI cR cS cL m14 (c0 := 0) (s0 := 0) hl 0 0  (fun E u h => zno (dHeld tm14 0 (by decide)) h)) gX5_digest_X5_held (n := 2) rfl rfl rfl (by decide +kernel) rfl ⟨(Nat.le_of_ble_eq_true rfl), (Nat.le_of_ble_eq_true rfl)⟩ (C := RX5) rfl 106 cw_lad (As := [.int 0, .int 0]) (rest := [.long g15]) rfl (Nat.le_of_ble_eq_true rfl) ⟨(Nat.le_of_ble_eq_true rfl), (Nat.le_of_ble_eq_true rfl)⟩ dX5_digest_61 (fun E u h => zno (dHeld tm14 0 (by decide)) h) (fun r u hp => ?_)
  rw [(zyes (dHeld tm14 0 (by decide)) hp).1, (zyes (dHeld tm14 0 (by decide)) hp).2]
  refine z_i2l (v := (fWGW (rv mem 0) 0).toInt64) E dX5_digest_64 rfl ?_
  refine z_callSl E hZ (k_mix l D ad cI cR cS cL m14 g15 ((fWGW (rv mem 0) 0).toInt64)) gX5_digest_X5_mix (n := 2) rfl rfl rfl (by decide +kernel) rfl ⟨(Nat.le_of_ble_eq_true rfl), (Nat.le_of_ble_eq_true rfl)⟩ (As := [.long g15, .long ((fWGW (rv mem 0) 0).toInt64)]) (rest := []) rfl (Nat.le_of_ble_eq_true rfl) ⟨(Nat.le_of_ble_eq_true rfl), (Nat.le_of_ble_eq_true rfl)⟩ dX5_digest_65 (fun g16 u hg16 => ?_)
  rw [hg16.2]
  refine z_lstore_n (lv' := [(1, .long g16), (3, .int 0), (0, .ref (ad 106))]) E dX5_digest_68 rfl (by decide) rfl ?_
  refine z_iinc (v := 10) (lv' := [(3, .int 10), (1, .long g16), (0, .ref (ad 106))]) E dX5_digest_69 (q := 1) rfl (by decide) (by decide) rfl ?_
  refine z_goto (tgt := 51) E dX5_digest_72 (by decide) ?_
  refine z_iload_n E dX5_digest_51 rfl 0 rfl ?_
  refine z_bipush (v := 10) E dX5_digest_52 (by decide) ?_
  refine z_icmp_gt_f (tgt := 75) E dX5_digest_54 (by decide) (by decide) ?_
  refine z_lload_n E dX5_digest_57 rfl 1 rfl ?_
  refine z_aload_n E dX5_digest_58 rfl 2 rfl ?_
  refine z_iconst (v := 0) E dX5_digest_59 (by decide) ?_
  refine z_iload_n E dX5_digest_60 rfl 0 rfl ?_
  refine z_callViN E hZ (k_held l D ad cI cR cS cL m14 (c0 := 0) (s0 := 0) hl 0 10  (fun E u h => zno (dHeld tm14 10 (by decide)) h)) gX5_digest_X5_held (n := 2) rfl rfl rfl (by decide +kernel) rfl ⟨(Nat.le_of_ble_eq_true rfl), (Nat.le_of_ble_eq_true rfl)⟩ (C := RX5) rfl 106 cw_lad (As := [.int 0, .int 10]) (rest := [.long g16]) rfl (Nat.le_of_ble_eq_true rfl) ⟨(Nat.le_of_ble_eq_true rfl), (Nat.le_of_ble_eq_true rfl)⟩ dX5_digest_61 (fun E u h => zno (dHeld tm14 10 (by decide)) h) (fun r u hp => ?_)
  rw [(zyes (dHeld tm14 10 (by decide)) hp).1, (zyes (dHeld tm14 10 (by decide)) hp).2]
  refine z_i2l (v := (fWGW (rv mem 0) 10).toInt64) E dX5_digest_64 rfl ?_
  refine z_callSl E hZ (k_mix l D ad cI cR cS cL m14 g16 ((fWGW (rv mem 0) 10).toInt64)) gX5_digest_X5_mix (n := 2) rfl rfl rfl (by decide +kernel) rfl ⟨(Nat.le_of_ble_eq_true rfl), (Nat.le_of_ble_eq_true rfl)⟩ (As := [.long g16, .long ((fWGW (rv mem 0) 10).toInt64)]) (rest := []) rfl (Nat.le_of_ble_eq_true rfl) ⟨(Nat.le_of_ble_eq_true rfl), (Nat.le_of_ble_eq_true rfl)⟩ dX5_digest_65 (fun g17 u hg17 => ?_)
  rw [hg17.2]
  refine z_lstore_n (lv' := [(1, .long g17), (3, .int 10), (0, .ref (ad 106))]) E dX5_digest_68 rfl (by decide) rfl ?_
  refine z_iinc (v := 20) (lv' := [(3, .int 20), (1, .long g17), (0, .ref (ad 106))]) E dX5_digest_69 (q := 1) rfl (by decide) (by decide) rfl ?_
  refine z_goto (tgt := 51) E dX5_digest_72 (by decide) ?_
  refine z_iload_n E dX5_digest_51 rfl 0 rfl ?_
  refine z_bipush (v := 10) E dX5_digest_52 (by decide) ?_
  refine z_icmp_gt_t (tgt := 75) E dX5_digest_54 (by decide) (by decide) ?_
  have e6 : g17 = zMx g13 (zHel (rv mem 0)) := by rw [hg17.1, hg16.1, hg15.1]; rfl
  refine z_lload_n E dX5_digest_75 rfl 1 rfl ?_
  refine z_aload_n E dX5_digest_76 rfl 2 rfl ?_
  refine z_callVd E hZ (k_safety l D ad cI cR cS cL m14 (by rw [tm14.people, tm14.cell (show 87 < 84 ∨ 86 < 87 by omega)]; exact hnn)) gX5_digest_X5_safety (n := 0) rfl rfl rfl (by decide +kernel) rfl ⟨(Nat.le_of_ble_eq_true rfl), (Nat.le_of_ble_eq_true rfl)⟩ (C := RX5) rfl 106 cw_lad (As := []) (rest := [.long g17]) rfl (Nat.le_of_ble_eq_true rfl) ⟨(Nat.le_of_ble_eq_true rfl), (Nat.le_of_ble_eq_true rfl)⟩ dX5_digest_77 (fun r u hp => ?_)
  rw [hp.1, hp.2, tm14.safe]
  refine z_callSl E hZ (k_bits l D ad cI cR cS cL m14 hsh) gX5_digest_X5_bitsOf (n := 1) rfl rfl rfl (by decide +kernel) rfl ⟨(Nat.le_of_ble_eq_true rfl), (Nat.le_of_ble_eq_true rfl)⟩ (As := [.double (fSafe mem)]) (rest := [.long g17]) rfl (Nat.le_of_ble_eq_true rfl) ⟨(Nat.le_of_ble_eq_true rfl), (Nat.le_of_ble_eq_true rfl)⟩ dX5_digest_80 (fun bits u hbits => ?_)
  rw [hbits.2]
  refine z_callSl E hZ (k_mix l D ad cI cR cS cL m14 g17 bits) gX5_digest_X5_mix (n := 2) rfl rfl rfl (by decide +kernel) rfl ⟨(Nat.le_of_ble_eq_true rfl), (Nat.le_of_ble_eq_true rfl)⟩ (As := [.long g17, .long bits]) (rest := []) rfl (Nat.le_of_ble_eq_true rfl) ⟨(Nat.le_of_ble_eq_true rfl), (Nat.le_of_ble_eq_true rfl)⟩ dX5_digest_83 (fun g18 u hg18 => ?_)
  rw [hg18.2]
  refine z_lstore_n (lv' := [(1, .long g18), (3, .int 20), (0, .ref (ad 106))]) E dX5_digest_86 rfl (by decide) rfl ?_
  have hlen2 : m14 103 1 = nI L := by rw [tm14.cell (show 103 < 84 ∨ 86 < 103 by omega)]; exact hlen
  refine z_lload_n E dX5_digest_87 rfl 0 rfl ?_
  refine z_aload_n E dX5_digest_88 rfl 2 rfl ?_
  refine z_get E 106 cw_lad (C := RX5) (T := TX5) (N := 4) rfl (fun _ h => List.mem_cons_of_mem _ (List.mem_append_left _ (List.mem_append_left _ (List.mem_append_left _ (List.mem_append_left _ (List.mem_append_left _ (List.mem_append_left _ (List.mem_append_right _ h)))))))) 2 (by decide) (List.mem_of_getElem? (i := 2) (by decide +kernel)) rfl (v := .ref (ad 103)) rfl dX5_digest_89 ?_
  refine z_get E 103 cw_works (C := RX4) (T := TX4) (N := 4) rfl (fun _ h => List.mem_cons_of_mem _ (List.mem_append_left _ (List.mem_append_left _ (List.mem_append_left _ (List.mem_append_left _ (List.mem_append_left _ (List.mem_append_right _ h))))))) 1 (by decide) (List.mem_of_getElem? (i := 3) (by decide +kernel)) rfl (v := .int (nI L)) (congrArg (fun z : Int32 => some (Value.int z)) hlen2) dX5_digest_92 ?_
  refine z_i2l (v := (nI L).toInt64) E dX5_digest_95 rfl ?_
  refine z_callSl E hZ (k_mix l D ad cI cR cS cL m14 g18 ((nI L).toInt64)) gX5_digest_X5_mix (n := 2) rfl rfl rfl (by decide +kernel) rfl ⟨(Nat.le_of_ble_eq_true rfl), (Nat.le_of_ble_eq_true rfl)⟩ (As := [.long g18, .long ((nI L).toInt64)]) (rest := []) rfl (Nat.le_of_ble_eq_true rfl) ⟨(Nat.le_of_ble_eq_true rfl), (Nat.le_of_ble_eq_true rfl)⟩ dX5_digest_96 (fun g19 u hg19 => ?_)
  rw [hg19.2]
  refine z_lstore_n (lv' := [(1, .long g19), (3, .int 20), (0, .ref (ad 106))]) E dX5_digest_99 rfl (by decide) rfl ?_
  refine z_iconst (v := 0) E dX5_digest_100 (by decide) ?_
  refine z_istore_n (lv' := [(3, .int 0), (1, .long g19), (0, .ref (ad 106))]) E dX5_digest_101 rfl (by decide) rfl ?_
  have e7 : g19 = zMx g17 [bits, (nI L).toInt64] := by rw [hg19.1, hg18.1]; rfl
  refine z_loop (σ := Nat × Int64) (fun n y => y.1 + n = L ∧ y.2 = zMx g19 (zCodes (mem 104) y.1)) (fun _ => cw ad cI cR cS m14) (fun y => [(3, .int (nI y.1)), (1, .long y.2), (0, .ref (ad 106))]) 102 0 0 ?_ L (0, g19) ⟨Nat.zero_add _, rfl⟩ rfl rfl rfl rfl rfl
  rintro n ⟨t, hh0⟩ ⟨htn, hh⟩ ih
  dsimp only at htn hh ⊢
  refine z_iload_n E dX5_digest_102 rfl 0 rfl ?_
  refine z_aload_n E dX5_digest_103 rfl 2 rfl ?_
  refine z_get E 106 cw_lad (C := RX5) (T := TX5) (N := 4) rfl (fun _ h => List.mem_cons_of_mem _ (List.mem_append_left _ (List.mem_append_left _ (List.mem_append_left _ (List.mem_append_left _ (List.mem_append_left _ (List.mem_append_left _ (List.mem_append_right _ h)))))))) 2 (by decide) (List.mem_of_getElem? (i := 2) (by decide +kernel)) rfl (v := .ref (ad 103)) rfl dX5_digest_104 ?_
  refine z_get E 103 cw_works (C := RX4) (T := TX4) (N := 4) rfl (fun _ h => List.mem_cons_of_mem _ (List.mem_append_left _ (List.mem_append_left _ (List.mem_append_left _ (List.mem_append_left _ (List.mem_append_left _ (List.mem_append_right _ h))))))) 1 (by decide) (List.mem_of_getElem? (i := 3) (by decide +kernel)) rfl (v := .int (nI L)) (congrArg (fun z : Int32 => some (Value.int z)) hlen2) dX5_digest_107 ?_
  refine z_icmp_ge (tgt := 133) E dX5_digest_110 (by decide) (fun c110 => ?_) (fun c110 => ?_)
  · skip
    refine z_lload_n E dX5_digest_133 rfl 1 rfl ?_
    exact z_lretM E hr hlocks (m14) rfl ⟨bits, hbits.1, by unfold zDig; rw [zMx_app, ← e1, zMx_app, ← hg7, zMx_app, ← hg9, zMx_app, ← hg11, zMx_app, ← hg13, zMx_app, ← e6, zMx_app, ← e7]; rw [hh, show t = L by have := (nI_leI (a := L) (b := t) (by omega) (by omega)).mp c110; omega], tm14⟩ (Nat.le_of_ble_eq_true rfl) (Nat.le_of_ble_eq_true rfl) dX5_digest_134
  · skip
    obtain ⟨n, rfl⟩ : ∃ n1, n = n1 + 1 := ⟨n - 1, by have := zklt (k := t) (L := L) (by omega) (by omega) c110; omega⟩
    have ht : t < L := by omega
    refine z_lload_n E dX5_digest_113 rfl 1 rfl ?_
    refine z_aload_n E dX5_digest_114 rfl 2 rfl ?_
    refine z_get E 106 cw_lad (C := RX5) (T := TX5) (N := 4) rfl (fun _ h => List.mem_cons_of_mem _ (List.mem_append_left _ (List.mem_append_left _ (List.mem_append_left _ (List.mem_append_left _ (List.mem_append_left _ (List.mem_append_left _ (List.mem_append_right _ h)))))))) 2 (by decide) (List.mem_of_getElem? (i := 2) (by decide +kernel)) rfl (v := .ref (ad 103)) rfl dX5_digest_115 ?_
    refine z_iload_n E dX5_digest_118 rfl 0 rfl ?_
    refine z_callVi E hZ (k_codeAt l D ad cI cR cS cL m14 (nI t)) gX5_digest_X4_codeAt (n := 1) rfl rfl rfl (by decide +kernel) rfl ⟨Nat.le_of_ble_eq_true rfl, Nat.le_of_ble_eq_true rfl⟩  (C := RX4) rfl 103 cw_works (As := [.int (nI t)]) (rest := [.long hh0]) rfl (Nat.le_of_ble_eq_true rfl) ⟨Nat.le_of_ble_eq_true rfl, Nat.le_of_ble_eq_true rfl⟩ dX5_digest_119 (fun r u hp => ?_)
    rw [hp.1, hp.2]
    rw [fCodeAt_of hL hlen2 ht, tm14.cell (show 104 < 84 ∨ 86 < 104 by omega)]
    refine z_i2l (v := (mem 104 t).toInt64) E dX5_digest_122 rfl ?_
    refine z_callSl E hZ (k_mix l D ad cI cR cS cL m14 hh0 ((mem 104 t).toInt64)) gX5_digest_X5_mix (n := 2) rfl rfl rfl (by decide +kernel) rfl ⟨(Nat.le_of_ble_eq_true rfl), (Nat.le_of_ble_eq_true rfl)⟩ (As := [.long hh0, .long ((mem 104 t).toInt64)]) (rest := []) rfl (Nat.le_of_ble_eq_true rfl) ⟨(Nat.le_of_ble_eq_true rfl), (Nat.le_of_ble_eq_true rfl)⟩ dX5_digest_123 (fun g20 u hg20 => ?_)
    rw [hg20.2]
    refine z_lstore_n (lv' := [(1, .long g20), (3, .int (nI t)), (0, .ref (ad 106))]) E dX5_digest_126 rfl (by decide) rfl ?_
    refine z_iinc (v := nI t + 1) (lv' := [(3, .int (nI t + 1)), (1, .long g20), (0, .ref (ad 106))]) E dX5_digest_127 (q := 1) rfl rfl (by decide) rfl ?_
    refine z_goto (tgt := 102) E dX5_digest_130 (by decide) ?_
    refine z_eq (ws' := cw ad cI cR cS m14) (lv' := [(3, .int (nI (t + 1))), (1, .long g20), (0, .ref (ad 106))]) (st' := []) rfl (by rw [← nI_1 t]) rfl ?_
    exact ih n (t + 1, g20) (by omega) ⟨by show t + 1 + n = L; omega, by show g20 = zMx g19 (zCodes (mem 104) (t + 1)); rw [zCodes_s, zMx_app, ← hh, hg20.1]; rfl⟩
