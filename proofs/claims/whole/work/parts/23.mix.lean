/-! the digest -/
theorem zno {S : zO} {v : Int32} {m u : zM} {E : String} {Q : Prop} (h1 : S = (.inr v, m)) (h2 : S = (.inl E, u)) : Q := by rw [h1] at h2; cases h2
theorem zyes {S : zO} {v r : Int32} {m u : zM} (h1 : S = (.inr v, m)) (h2 : S = (.inr r, u)) : r = v ∧ u = m := by rw [h1] at h2; cases h2; exact ⟨rfl, rfl⟩
theorem znol {S : String ⊕ Int32} {v : Int32} {E : String} {Q : Prop} (h1 : S = .inr v) (h2 : S = .inl E) : Q := by rw [h1] at h2; cases h2
theorem zyesl {S : String ⊕ Int32} {v r : Int32} (h1 : S = .inr v) (h2 : S = .inr r) : r = v := by rw [h1] at h2; cases h2; rfl
theorem zk4 {k : Nat} (hk : k < 4) : ¬ (nI k < 0 ∨ 4 ≤ nI k) := by
  rintro (h | h)
  · exact nI_pos (by omega) h
  · have := (nI_leI (a := 4) (b := k) (by omega) (by omega)).mp h; omega
theorem fBears_of {R : Nat → Int32} {pp t : Nat} (h : R 7 = nI pp) (hpp : pp ≤ 3) (ht : t < pp) : ¬ fBears R (nI t) = 0 := by
  unfold fBears
  rw [if_neg (nI_pos (by omega)), if_neg (show ¬ R 7 ≤ nI t by rw [h]; exact fun h => by have := (nI_leI (by omega) (by omega)).mp h; omega), if_neg (show ¬ (3 : Int32) ≤ nI t from fun h => by have := (nI_leI (a := 3) (b := t) (by omega) (by omega)).mp h; omega)]
  decide
def zMx (h : Int64) (vs : List Int64) : Int64 := vs.foldl (fun h v => 31 * h + v) h
theorem zMx_app (h : Int64) (a b : List Int64) : zMx h (a ++ b) = zMx (zMx h a) b := List.foldl_append ..
def zLL (R : Nat → Int32) : List Int64 := [(R 0).toInt64, (R 1).toInt64, (R 2).toInt64, (R 3).toInt64, (R 4).toInt64, (R 5).toInt64, (R 7).toInt64, (fLoad R).toInt64, (fMoment R).toInt64, (R 6).toInt64, (fStands R).toInt64]
def zLF (R : Nat → Int32) : List Int64 := [(if fStands R = 0 then -1 else fLeast R + 1000 : Int32).toInt64, (if fStands R = 0 then -1 else fGreat R + 1000 : Int32).toInt64, (fForces R : Int32).toInt64, (if fStands R = 0 then -1 else fNearest R + 1000 : Int32).toInt64, (if fStands R = 0 then -1 else fPush R (fNearest R) : Int32).toInt64, (if fStands R = 0 then -1 else fLoad R - fNearest R : Int32).toInt64]
def zPers (R : Nat → Int32) : Nat → List Int64
  | 0 => []
  | t + 1 => zPers R t ++ [(R (8 + t)).toInt64, (R (11 + t)).toInt64, (fHi R t).toInt64]
theorem zPers_s (R : Nat → Int32) (t : Nat) : zPers R (t + 1) = zPers R t ++ [(R (8 + t)).toInt64, (R (11 + t)).toInt64, (fHi R t).toInt64] := by rw [zPers]
def zTl (R : Nat → Int32) : List Int64 := [(fNR R).toInt64, (fBB R).toInt64, (fRK R).toInt64, (fWL R).toInt64]
def zLad (R : Nat → Int32) (pp : Nat) : List Int64 := zLL R ++ (zLF R ++ (zPers R pp ++ zTl R))
theorem dLad0 {mem m : zM} (htr : zTr mem m) {k : Nat} (hk : k < 4) : sLadder m (nI k) 0 = (.inr ((rv mem k) 0), m) := by
  rw [← htr.rv (j := k) (by omega)]
  unfold sLadder
  rw [nI_clamp (by omega)]
  exact (if_neg (zk4 hk)).trans (if_pos rfl)
theorem dLad1 {mem m : zM} (htr : zTr mem m) {k : Nat} (hk : k < 4) : sLadder m (nI k) 1 = (.inr ((rv mem k) 1), m) := by
  rw [← htr.rv (j := k) (by omega)]
  unfold sLadder
  rw [nI_clamp (by omega)]
  exact (if_neg (zk4 hk)).trans ((if_neg (by decide)).trans (if_pos rfl))
theorem dLad2 {mem m : zM} (htr : zTr mem m) {k : Nat} (hk : k < 4) : sLadder m (nI k) 2 = (.inr ((rv mem k) 2), m) := by
  rw [← htr.rv (j := k) (by omega)]
  unfold sLadder
  rw [nI_clamp (by omega)]
  exact (if_neg (zk4 hk)).trans ((if_neg (by decide)).trans ((if_neg (by decide)).trans (if_pos rfl)))
theorem dLad3 {mem m : zM} (htr : zTr mem m) {k : Nat} (hk : k < 4) : sLadder m (nI k) 3 = (.inr ((rv mem k) 3), m) := by
  rw [← htr.rv (j := k) (by omega)]
  unfold sLadder
  rw [nI_clamp (by omega)]
  exact (if_neg (zk4 hk)).trans ((if_neg (by decide)).trans ((if_neg (by decide)).trans ((if_neg (by decide)).trans (if_pos rfl))))
theorem dLad4 {mem m : zM} (htr : zTr mem m) {k : Nat} (hk : k < 4) : sLadder m (nI k) 4 = (.inr ((rv mem k) 4), m) := by
  rw [← htr.rv (j := k) (by omega)]
  unfold sLadder
  rw [nI_clamp (by omega)]
  exact (if_neg (zk4 hk)).trans ((if_neg (by decide)).trans ((if_neg (by decide)).trans ((if_neg (by decide)).trans ((if_neg (by decide)).trans (if_pos rfl)))))
theorem dLad5 {mem m : zM} (htr : zTr mem m) {k : Nat} (hk : k < 4) : sLadder m (nI k) 5 = (.inr ((rv mem k) 5), m) := by
  rw [← htr.rv (j := k) (by omega)]
  unfold sLadder
  rw [nI_clamp (by omega)]
  exact (if_neg (zk4 hk)).trans ((if_neg (by decide)).trans ((if_neg (by decide)).trans ((if_neg (by decide)).trans ((if_neg (by decide)).trans ((if_neg (by decide)).trans (if_pos rfl))))))
theorem dLad6 {mem m : zM} (htr : zTr mem m) {k : Nat} (hk : k < 4) : sLadder m (nI k) 6 = (.inr ((rv mem k) 7), m) := by
  rw [← htr.rv (j := k) (by omega)]
  unfold sLadder
  rw [nI_clamp (by omega)]
  exact (if_neg (zk4 hk)).trans ((if_neg (by decide)).trans ((if_neg (by decide)).trans ((if_neg (by decide)).trans ((if_neg (by decide)).trans ((if_neg (by decide)).trans ((if_neg (by decide)).trans (if_pos rfl)))))))
theorem dLad7 {mem m : zM} (htr : zTr mem m) {k : Nat} (hk : k < 4) : sLadder m (nI k) 7 = (.inr (fLoad (rv mem k)), m) := by
  rw [← htr.rv (j := k) (by omega)]
  unfold sLadder
  rw [nI_clamp (by omega)]
  exact (if_neg (zk4 hk)).trans ((if_neg (by decide)).trans ((if_neg (by decide)).trans ((if_neg (by decide)).trans ((if_neg (by decide)).trans ((if_neg (by decide)).trans ((if_neg (by decide)).trans ((if_neg (by decide)).trans (if_pos rfl))))))))
theorem dLad8 {mem m : zM} (htr : zTr mem m) {k : Nat} (hk : k < 4) : sLadder m (nI k) 8 = (.inr (fMoment (rv mem k)), m) := by
  rw [← htr.rv (j := k) (by omega)]
  unfold sLadder
  rw [nI_clamp (by omega)]
  exact (if_neg (zk4 hk)).trans ((if_neg (by decide)).trans ((if_neg (by decide)).trans ((if_neg (by decide)).trans ((if_neg (by decide)).trans ((if_neg (by decide)).trans ((if_neg (by decide)).trans ((if_neg (by decide)).trans ((if_neg (by decide)).trans (if_pos rfl)))))))))
theorem dLad9 {mem m : zM} (htr : zTr mem m) {k : Nat} (hk : k < 4) : sLadder m (nI k) 9 = (.inr ((rv mem k) 6), m) := by
  rw [← htr.rv (j := k) (by omega)]
  unfold sLadder
  rw [nI_clamp (by omega)]
  exact (if_neg (zk4 hk)).trans ((if_neg (by decide)).trans ((if_neg (by decide)).trans ((if_neg (by decide)).trans ((if_neg (by decide)).trans ((if_neg (by decide)).trans ((if_neg (by decide)).trans ((if_neg (by decide)).trans ((if_neg (by decide)).trans ((if_neg (by decide)).trans (if_pos rfl))))))))))
theorem dLad10 {mem m : zM} (htr : zTr mem m) {k : Nat} (hk : k < 4) : sLadder m (nI k) 10 = (.inr (fStands (rv mem k)), m) := by
  rw [← htr.rv (j := k) (by omega)]
  unfold sLadder
  rw [nI_clamp (by omega)]
  exact (if_neg (zk4 hk)).trans ((if_neg (by decide)).trans ((if_neg (by decide)).trans ((if_neg (by decide)).trans ((if_neg (by decide)).trans ((if_neg (by decide)).trans ((if_neg (by decide)).trans ((if_neg (by decide)).trans ((if_neg (by decide)).trans ((if_neg (by decide)).trans ((if_neg (by decide)).trans (if_pos rfl)))))))))))
theorem dFor0 {mem m : zM} (htr : zTr mem m) {k : Nat} (hk : k < 4) : sForce m (nI k) 0 = (.inr (if fStands (rv mem k) = 0 then -1 else fLeast (rv mem k) + 1000), m) := by
  rw [← htr.rv (j := k) (by omega)]
  unfold sForce
  rw [nI_clamp (by omega)]
  by_cases hs : fStands (rv m k) = 0
  · exact (if_neg (zk4 hk)).trans ((if_neg (by decide)).trans ((if_neg (by decide)).trans ((if_pos hs).trans (by rw [if_pos hs]))))
  · exact (if_neg (zk4 hk)).trans ((if_neg (by decide)).trans ((if_neg (by decide)).trans ((if_neg hs).trans ((if_pos rfl).trans (by rw [if_neg hs])))))
theorem dFor1 {mem m : zM} (htr : zTr mem m) {k : Nat} (hk : k < 4) : sForce m (nI k) 1 = (.inr (if fStands (rv mem k) = 0 then -1 else fGreat (rv mem k) + 1000), m) := by
  rw [← htr.rv (j := k) (by omega)]
  unfold sForce
  rw [nI_clamp (by omega)]
  by_cases hs : fStands (rv m k) = 0
  · exact (if_neg (zk4 hk)).trans ((if_neg (by decide)).trans ((if_neg (by decide)).trans ((if_pos hs).trans (by rw [if_pos hs]))))
  · exact (if_neg (zk4 hk)).trans ((if_neg (by decide)).trans ((if_neg (by decide)).trans ((if_neg hs).trans ((if_neg (by decide)).trans ((if_pos rfl).trans (by rw [if_neg hs]))))))
theorem dFor2 {mem m : zM} (htr : zTr mem m) {k : Nat} (hk : k < 4) : sForce m (nI k) 2 = (.inr (fForces (rv mem k)), m) := by
  rw [← htr.rv (j := k) (by omega)]
  unfold sForce
  rw [nI_clamp (by omega)]
  exact (if_neg (zk4 hk)).trans ((if_neg (by decide)).trans (if_pos rfl))
theorem dFor3 {mem m : zM} (htr : zTr mem m) {k : Nat} (hk : k < 4) : sForce m (nI k) 3 = (.inr (if fStands (rv mem k) = 0 then -1 else fNearest (rv mem k) + 1000), m) := by
  rw [← htr.rv (j := k) (by omega)]
  unfold sForce
  rw [nI_clamp (by omega)]
  by_cases hs : fStands (rv m k) = 0
  · exact (if_neg (zk4 hk)).trans ((if_neg (by decide)).trans ((if_neg (by decide)).trans ((if_pos hs).trans (by rw [if_pos hs]))))
  · exact (if_neg (zk4 hk)).trans ((if_neg (by decide)).trans ((if_neg (by decide)).trans ((if_neg hs).trans ((if_neg (by decide)).trans ((if_neg (by decide)).trans ((if_pos rfl).trans (by rw [if_neg hs])))))))
theorem dFor4 {mem m : zM} (htr : zTr mem m) {k : Nat} (hk : k < 4) : sForce m (nI k) 4 = (.inr (if fStands (rv mem k) = 0 then -1 else fPush (rv mem k) (fNearest (rv mem k))), m) := by
  rw [← htr.rv (j := k) (by omega)]
  unfold sForce
  rw [nI_clamp (by omega)]
  by_cases hs : fStands (rv m k) = 0
  · exact (if_neg (zk4 hk)).trans ((if_neg (by decide)).trans ((if_neg (by decide)).trans ((if_pos hs).trans (by rw [if_pos hs]))))
  · exact (if_neg (zk4 hk)).trans ((if_neg (by decide)).trans ((if_neg (by decide)).trans ((if_neg hs).trans ((if_neg (by decide)).trans ((if_neg (by decide)).trans ((if_neg (by decide)).trans ((if_pos rfl).trans (by rw [if_neg hs]))))))))
theorem dFor5 {mem m : zM} (htr : zTr mem m) {k : Nat} (hk : k < 4) : sForce m (nI k) 5 = (.inr (if fStands (rv mem k) = 0 then -1 else fLoad (rv mem k) - fNearest (rv mem k)), m) := by
  rw [← htr.rv (j := k) (by omega)]
  unfold sForce
  rw [nI_clamp (by omega)]
  by_cases hs : fStands (rv m k) = 0
  · exact (if_neg (zk4 hk)).trans ((if_neg (by decide)).trans ((if_neg (by decide)).trans ((if_pos hs).trans (by rw [if_pos hs]))))
  · exact (if_neg (zk4 hk)).trans ((if_neg (by decide)).trans ((if_neg (by decide)).trans ((if_neg hs).trans ((if_neg (by decide)).trans ((if_neg (by decide)).trans ((if_neg (by decide)).trans ((if_neg (by decide)).trans (by rw [if_neg hs]))))))))
theorem dPer0 {mem m : zM} (htr : zTr mem m) {k : Nat} (hk : k < 4) {pp t : Nat} (h7 : rv mem k 7 = nI pp) (hpp : pp ≤ 3) (ht : t < pp) : sPerson m (nI k) (nI t) 0 = (.inr (rv mem k (8 + t)), m) := by
  have e := htr.rv (j := k) (by omega)
  rw [← e] at h7
  rw [← e]
  have hb := fBears_of h7 hpp ht
  unfold sPerson
  rw [nI_clamp (n := k) (by omega)]
  exact (if_neg (zk4 hk)).trans ((if_neg hb).trans ((if_pos rfl).trans (by rw [show sWeightOf m k (nI t) = rv m k (8 + t) from (if_neg hb).trans (by rw [nI_clamp (by omega)]; unfold rv; rw [if_neg (by omega), if_pos (by omega), show 8 + t - 8 = t by omega])])))
theorem dPer1 {mem m : zM} (htr : zTr mem m) {k : Nat} (hk : k < 4) {pp t : Nat} (h7 : rv mem k 7 = nI pp) (hpp : pp ≤ 3) (ht : t < pp) : sPerson m (nI k) (nI t) 1 = (.inr (rv mem k (11 + t)), m) := by
  have e := htr.rv (j := k) (by omega)
  rw [← e] at h7
  rw [← e]
  have hb := fBears_of h7 hpp ht
  unfold sPerson
  rw [nI_clamp (n := k) (by omega)]
  exact (if_neg (zk4 hk)).trans ((if_neg hb).trans ((if_neg (by decide)).trans ((if_pos rfl).trans (by rw [show sStepOf m k (nI t) = rv m k (11 + t) from (if_neg hb).trans (by rw [nI_clamp (by omega)]; unfold rv; rw [if_neg (by omega), if_neg (by omega), if_pos (by omega), show 11 + t - 11 = t by omega])]))))
theorem dHigh {mem m : zM} (htr : zTr mem m) {k : Nat} (hk : k < 4) {pp t : Nat} (h7 : rv mem k 7 = nI pp) (hpp : pp ≤ 3) (ht : t < pp) : sHigh m (nI k) (nI t) = .inr (fHi (rv mem k) t) := by
  have e := htr.rv (j := k) (by omega)
  rw [← e] at h7
  rw [← e]
  have hb := fBears_of h7 hpp ht
  unfold sHigh
  rw [nI_clamp (n := k) (by omega), nI_clamp (n := t) (by omega)]
  exact (if_neg (zk4 hk)).trans (if_neg hb)
theorem dNeeded {mem m : zM} (htr : zTr mem m) {k : Nat} (hk : k < 4) : sNeeded m (nI k) = .inr (fNR (rv mem k)) := by
  rw [← htr.rv (j := k) (by omega)]
  unfold sNeeded
  rw [nI_clamp (by omega)]
  exact if_neg (zk4 hk)
theorem dBest {mem m : zM} (htr : zTr mem m) {k : Nat} (hk : k < 4) : sBest m (nI k) = .inr (fBB (rv mem k)) := by
  rw [← htr.rv (j := k) (by omega)]
  unfold sBest
  rw [nI_clamp (by omega)]
  exact if_neg (zk4 hk)
theorem dRisk {mem m : zM} (htr : zTr mem m) {k : Nat} (hk : k < 4) : sRisk m (nI k) = .inr (fRK (rv mem k)) := by
  rw [← htr.rv (j := k) (by omega)]
  unfold sRisk
  rw [nI_clamp (by omega)]
  exact if_neg (zk4 hk)
theorem dWalls {mem m : zM} (htr : zTr mem m) {k : Nat} (hk : k < 4) : sWalls m (nI k) = .inr (fWL (rv mem k)) := by
  rw [← htr.rv (j := k) (by omega)]
  unfold sWalls
  rw [nI_clamp (by omega)]
  exact if_neg (zk4 hk)
theorem zTr3 {mem m : zM} (htr : zTr mem m) (h : ∀ i, i < 4 → ∃ a, a ≤ 3 ∧ mem (3 * i) 7 = nI a) : ∀ i, i < 4 → ∃ a, a ≤ 3 ∧ m (3 * i) 7 = nI a := fun i hi => by rw [htr _ (Or.inl (by omega))]; exact h i hi
theorem zTrA {mem m : zM} (htr : zTr mem m) (h : ∀ i, i < 4 → ∀ t, t < 3 → ∃ a, a ≤ 10 ∧ mem (3 * i + 2) t = nI a) : ∀ i, i < 4 → ∀ t, t < 3 → ∃ a, a ≤ 10 ∧ m (3 * i + 2) t = nI a := fun i hi t ht => by rw [htr _ (Or.inl (by omega))]; exact h i hi t ht
set_option maxHeartbeats 1000000 in
set_option maxRecDepth 100000 in
theorem k_mixLadder (l : Launch) (D : va_G) (ad : Nat → Nat) (cI cR cS cL : ClassId) (mem : zM) (hl : l.stackTraces = false) {k : Nat} (hk : k < 4) (h : Int64) {pp : Nat} (hpp : pp ≤ 3) (h7 : rv mem k 7 = nI pp) (h3 : ∀ i, i < 4 → ∃ a, a ≤ 3 ∧ mem (3 * i) 7 = nI a) (hA : ∀ i, i < 4 → ∀ t, t < 3 → ∃ a, a ≤ 10 ∧ mem (3 * i + 2) t = nI a) : zMl l yX5_mixLadder wsX5_mixLadder ({ frames := 8, cells := 0, slots := 0, locals := 137 }) D (cK cI cR cS cL) [.ref (ad 106), .long h, .int (nI k)] (cw ad cI cR cS mem) (fun r u => r = zMx h (zLad (rv mem k) pp) ∧ zTr mem u) (cw ad cI cR cS) 0 0 := by
  refine zMlM.of (cc := cX5_mixLadder) (maxL := 8) (ret := (some .long)) (by decide +kernel) rfl (lv0 := [(0, .ref (ad 106)), (1, .long h), (3, .int (nI k))]) (Nat.le_of_ble_eq_true rfl) rfl ?_
  intro p e s m args below meth c E hZ hr hlocks hnm
  refine z_lload_n E dX5_mixLadder_0 rfl 1 rfl ?_
  refine z_lstore (lv' := [(4, .long h), (0, .ref (ad 106)), (1, .long h), (3, .int (nI k))]) E dX5_mixLadder_1 (by decide) rfl ?_
  refine z_iconst (v := 0) E dX5_mixLadder_3 (by decide) ?_
  refine z_istore (lv' := [(6, .int 0), (4, .long h), (0, .ref (ad 106)), (1, .long h), (3, .int (nI k))]) E dX5_mixLadder_4 (by decide) rfl ?_
  refine z_iload E dX5_mixLadder_6 0 rfl ?_
  refine z_bipush (v := 10) E dX5_mixLadder_8 (by decide) ?_
  refine z_icmp_gt_f (tgt := 34) E dX5_mixLadder_10 (by decide) (by decide) ?_
  refine z_lload E dX5_mixLadder_13 1 rfl ?_
  refine z_aload_n E dX5_mixLadder_15 rfl 2 rfl ?_
  refine z_iload_n E dX5_mixLadder_16 rfl 4 rfl ?_
  refine z_iload E dX5_mixLadder_17 0 rfl ?_
  refine z_callViN E hZ (k_ladder l D ad cI cR cS cL mem (c0 := 0) (s0 := 0) hl (nI k) 0  (fun E u h => zno (dLad0 zTr.rfl' hk) h)) gX5_mixLadder_X5_ladder (n := 2) rfl rfl rfl (by decide +kernel) rfl ⟨(Nat.le_of_ble_eq_true rfl), (Nat.le_of_ble_eq_true rfl)⟩ (C := RX5) rfl 106 cw_lad (As := [.int (nI k), .int 0]) (rest := [.long h]) rfl (Nat.le_of_ble_eq_true rfl) ⟨(Nat.le_of_ble_eq_true rfl), (Nat.le_of_ble_eq_true rfl)⟩ dX5_mixLadder_19 (fun E u h => zno (dLad0 zTr.rfl' hk) h) (fun r u hp => ?_)
  rw [(zyes (dLad0 zTr.rfl' hk) hp).1, (zyes (dLad0 zTr.rfl' hk) hp).2]
  refine z_i2l (v := ((rv mem k) 0).toInt64) E dX5_mixLadder_22 rfl ?_
  refine z_callSl E hZ (k_mix l D ad cI cR cS cL mem h (((rv mem k) 0).toInt64)) gX5_mixLadder_X5_mix (n := 2) rfl rfl rfl (by decide +kernel) rfl ⟨(Nat.le_of_ble_eq_true rfl), (Nat.le_of_ble_eq_true rfl)⟩ (As := [.long h, .long (((rv mem k) 0).toInt64)]) (rest := []) rfl (Nat.le_of_ble_eq_true rfl) ⟨(Nat.le_of_ble_eq_true rfl), (Nat.le_of_ble_eq_true rfl)⟩ dX5_mixLadder_23 (fun g1 u hg1 => ?_)
  rw [hg1.2]
  refine z_lstore (lv' := [(4, .long g1), (6, .int 0), (0, .ref (ad 106)), (1, .long h), (3, .int (nI k))]) E dX5_mixLadder_26 (by decide) rfl ?_
  refine z_iinc (v := 1) (lv' := [(6, .int 1), (4, .long g1), (0, .ref (ad 106)), (1, .long h), (3, .int (nI k))]) E dX5_mixLadder_28 (q := 1) rfl (by decide) (by decide) rfl ?_
  refine z_goto (tgt := 6) E dX5_mixLadder_31 (by decide) ?_
  refine z_iload E dX5_mixLadder_6 0 rfl ?_
  refine z_bipush (v := 10) E dX5_mixLadder_8 (by decide) ?_
  refine z_icmp_gt_f (tgt := 34) E dX5_mixLadder_10 (by decide) (by decide) ?_
  refine z_lload E dX5_mixLadder_13 1 rfl ?_
  refine z_aload_n E dX5_mixLadder_15 rfl 2 rfl ?_
  refine z_iload_n E dX5_mixLadder_16 rfl 4 rfl ?_
  refine z_iload E dX5_mixLadder_17 0 rfl ?_
  refine z_callViN E hZ (k_ladder l D ad cI cR cS cL mem (c0 := 0) (s0 := 0) hl (nI k) 1  (fun E u h => zno (dLad1 zTr.rfl' hk) h)) gX5_mixLadder_X5_ladder (n := 2) rfl rfl rfl (by decide +kernel) rfl ⟨(Nat.le_of_ble_eq_true rfl), (Nat.le_of_ble_eq_true rfl)⟩ (C := RX5) rfl 106 cw_lad (As := [.int (nI k), .int 1]) (rest := [.long g1]) rfl (Nat.le_of_ble_eq_true rfl) ⟨(Nat.le_of_ble_eq_true rfl), (Nat.le_of_ble_eq_true rfl)⟩ dX5_mixLadder_19 (fun E u h => zno (dLad1 zTr.rfl' hk) h) (fun r u hp => ?_)
  rw [(zyes (dLad1 zTr.rfl' hk) hp).1, (zyes (dLad1 zTr.rfl' hk) hp).2]
  refine z_i2l (v := ((rv mem k) 1).toInt64) E dX5_mixLadder_22 rfl ?_
  refine z_callSl E hZ (k_mix l D ad cI cR cS cL mem g1 (((rv mem k) 1).toInt64)) gX5_mixLadder_X5_mix (n := 2) rfl rfl rfl (by decide +kernel) rfl ⟨(Nat.le_of_ble_eq_true rfl), (Nat.le_of_ble_eq_true rfl)⟩ (As := [.long g1, .long (((rv mem k) 1).toInt64)]) (rest := []) rfl (Nat.le_of_ble_eq_true rfl) ⟨(Nat.le_of_ble_eq_true rfl), (Nat.le_of_ble_eq_true rfl)⟩ dX5_mixLadder_23 (fun g2 u hg2 => ?_)
  rw [hg2.2]
  refine z_lstore (lv' := [(4, .long g2), (6, .int 1), (0, .ref (ad 106)), (1, .long h), (3, .int (nI k))]) E dX5_mixLadder_26 (by decide) rfl ?_
  refine z_iinc (v := 2) (lv' := [(6, .int 2), (4, .long g2), (0, .ref (ad 106)), (1, .long h), (3, .int (nI k))]) E dX5_mixLadder_28 (q := 1) rfl (by decide) (by decide) rfl ?_
  refine z_goto (tgt := 6) E dX5_mixLadder_31 (by decide) ?_
  refine z_iload E dX5_mixLadder_6 0 rfl ?_
  refine z_bipush (v := 10) E dX5_mixLadder_8 (by decide) ?_
  refine z_icmp_gt_f (tgt := 34) E dX5_mixLadder_10 (by decide) (by decide) ?_
  refine z_lload E dX5_mixLadder_13 1 rfl ?_
  refine z_aload_n E dX5_mixLadder_15 rfl 2 rfl ?_
  refine z_iload_n E dX5_mixLadder_16 rfl 4 rfl ?_
  refine z_iload E dX5_mixLadder_17 0 rfl ?_
  refine z_callViN E hZ (k_ladder l D ad cI cR cS cL mem (c0 := 0) (s0 := 0) hl (nI k) 2  (fun E u h => zno (dLad2 zTr.rfl' hk) h)) gX5_mixLadder_X5_ladder (n := 2) rfl rfl rfl (by decide +kernel) rfl ⟨(Nat.le_of_ble_eq_true rfl), (Nat.le_of_ble_eq_true rfl)⟩ (C := RX5) rfl 106 cw_lad (As := [.int (nI k), .int 2]) (rest := [.long g2]) rfl (Nat.le_of_ble_eq_true rfl) ⟨(Nat.le_of_ble_eq_true rfl), (Nat.le_of_ble_eq_true rfl)⟩ dX5_mixLadder_19 (fun E u h => zno (dLad2 zTr.rfl' hk) h) (fun r u hp => ?_)
  rw [(zyes (dLad2 zTr.rfl' hk) hp).1, (zyes (dLad2 zTr.rfl' hk) hp).2]
  refine z_i2l (v := ((rv mem k) 2).toInt64) E dX5_mixLadder_22 rfl ?_
  refine z_callSl E hZ (k_mix l D ad cI cR cS cL mem g2 (((rv mem k) 2).toInt64)) gX5_mixLadder_X5_mix (n := 2) rfl rfl rfl (by decide +kernel) rfl ⟨(Nat.le_of_ble_eq_true rfl), (Nat.le_of_ble_eq_true rfl)⟩ (As := [.long g2, .long (((rv mem k) 2).toInt64)]) (rest := []) rfl (Nat.le_of_ble_eq_true rfl) ⟨(Nat.le_of_ble_eq_true rfl), (Nat.le_of_ble_eq_true rfl)⟩ dX5_mixLadder_23 (fun g3 u hg3 => ?_)
  rw [hg3.2]
  refine z_lstore (lv' := [(4, .long g3), (6, .int 2), (0, .ref (ad 106)), (1, .long h), (3, .int (nI k))]) E dX5_mixLadder_26 (by decide) rfl ?_
  refine z_iinc (v := 3) (lv' := [(6, .int 3), (4, .long g3), (0, .ref (ad 106)), (1, .long h), (3, .int (nI k))]) E dX5_mixLadder_28 (q := 1) rfl (by decide) (by decide) rfl ?_
  refine z_goto (tgt := 6) E dX5_mixLadder_31 (by decide) ?_
  refine z_iload E dX5_mixLadder_6 0 rfl ?_
  refine z_bipush (v := 10) E dX5_mixLadder_8 (by decide) ?_
  refine z_icmp_gt_f (tgt := 34) E dX5_mixLadder_10 (by decide) (by decide) ?_
  refine z_lload E dX5_mixLadder_13 1 rfl ?_
  refine z_aload_n E dX5_mixLadder_15 rfl 2 rfl ?_
  refine z_iload_n E dX5_mixLadder_16 rfl 4 rfl ?_
  refine z_iload E dX5_mixLadder_17 0 rfl ?_
  refine z_callViN E hZ (k_ladder l D ad cI cR cS cL mem (c0 := 0) (s0 := 0) hl (nI k) 3  (fun E u h => zno (dLad3 zTr.rfl' hk) h)) gX5_mixLadder_X5_ladder (n := 2) rfl rfl rfl (by decide +kernel) rfl ⟨(Nat.le_of_ble_eq_true rfl), (Nat.le_of_ble_eq_true rfl)⟩ (C := RX5) rfl 106 cw_lad (As := [.int (nI k), .int 3]) (rest := [.long g3]) rfl (Nat.le_of_ble_eq_true rfl) ⟨(Nat.le_of_ble_eq_true rfl), (Nat.le_of_ble_eq_true rfl)⟩ dX5_mixLadder_19 (fun E u h => zno (dLad3 zTr.rfl' hk) h) (fun r u hp => ?_)
  rw [(zyes (dLad3 zTr.rfl' hk) hp).1, (zyes (dLad3 zTr.rfl' hk) hp).2]
  refine z_i2l (v := ((rv mem k) 3).toInt64) E dX5_mixLadder_22 rfl ?_
  refine z_callSl E hZ (k_mix l D ad cI cR cS cL mem g3 (((rv mem k) 3).toInt64)) gX5_mixLadder_X5_mix (n := 2) rfl rfl rfl (by decide +kernel) rfl ⟨(Nat.le_of_ble_eq_true rfl), (Nat.le_of_ble_eq_true rfl)⟩ (As := [.long g3, .long (((rv mem k) 3).toInt64)]) (rest := []) rfl (Nat.le_of_ble_eq_true rfl) ⟨(Nat.le_of_ble_eq_true rfl), (Nat.le_of_ble_eq_true rfl)⟩ dX5_mixLadder_23 (fun g4 u hg4 => ?_)
  rw [hg4.2]
  refine z_lstore (lv' := [(4, .long g4), (6, .int 3), (0, .ref (ad 106)), (1, .long h), (3, .int (nI k))]) E dX5_mixLadder_26 (by decide) rfl ?_
  refine z_iinc (v := 4) (lv' := [(6, .int 4), (4, .long g4), (0, .ref (ad 106)), (1, .long h), (3, .int (nI k))]) E dX5_mixLadder_28 (q := 1) rfl (by decide) (by decide) rfl ?_
  refine z_goto (tgt := 6) E dX5_mixLadder_31 (by decide) ?_
  refine z_iload E dX5_mixLadder_6 0 rfl ?_
  refine z_bipush (v := 10) E dX5_mixLadder_8 (by decide) ?_
  refine z_icmp_gt_f (tgt := 34) E dX5_mixLadder_10 (by decide) (by decide) ?_
  refine z_lload E dX5_mixLadder_13 1 rfl ?_
  refine z_aload_n E dX5_mixLadder_15 rfl 2 rfl ?_
  refine z_iload_n E dX5_mixLadder_16 rfl 4 rfl ?_
  refine z_iload E dX5_mixLadder_17 0 rfl ?_
  refine z_callViN E hZ (k_ladder l D ad cI cR cS cL mem (c0 := 0) (s0 := 0) hl (nI k) 4  (fun E u h => zno (dLad4 zTr.rfl' hk) h)) gX5_mixLadder_X5_ladder (n := 2) rfl rfl rfl (by decide +kernel) rfl ⟨(Nat.le_of_ble_eq_true rfl), (Nat.le_of_ble_eq_true rfl)⟩ (C := RX5) rfl 106 cw_lad (As := [.int (nI k), .int 4]) (rest := [.long g4]) rfl (Nat.le_of_ble_eq_true rfl) ⟨(Nat.le_of_ble_eq_true rfl), (Nat.le_of_ble_eq_true rfl)⟩ dX5_mixLadder_19 (fun E u h => zno (dLad4 zTr.rfl' hk) h) (fun r u hp => ?_)
  rw [(zyes (dLad4 zTr.rfl' hk) hp).1, (zyes (dLad4 zTr.rfl' hk) hp).2]
  refine z_i2l (v := ((rv mem k) 4).toInt64) E dX5_mixLadder_22 rfl ?_
  refine z_callSl E hZ (k_mix l D ad cI cR cS cL mem g4 (((rv mem k) 4).toInt64)) gX5_mixLadder_X5_mix (n := 2) rfl rfl rfl (by decide +kernel) rfl ⟨(Nat.le_of_ble_eq_true rfl), (Nat.le_of_ble_eq_true rfl)⟩ (As := [.long g4, .long (((rv mem k) 4).toInt64)]) (rest := []) rfl (Nat.le_of_ble_eq_true rfl) ⟨(Nat.le_of_ble_eq_true rfl), (Nat.le_of_ble_eq_true rfl)⟩ dX5_mixLadder_23 (fun g5 u hg5 => ?_)
  rw [hg5.2]
  refine z_lstore (lv' := [(4, .long g5), (6, .int 4), (0, .ref (ad 106)), (1, .long h), (3, .int (nI k))]) E dX5_mixLadder_26 (by decide) rfl ?_
  refine z_iinc (v := 5) (lv' := [(6, .int 5), (4, .long g5), (0, .ref (ad 106)), (1, .long h), (3, .int (nI k))]) E dX5_mixLadder_28 (q := 1) rfl (by decide) (by decide) rfl ?_
  refine z_goto (tgt := 6) E dX5_mixLadder_31 (by decide) ?_
  refine z_iload E dX5_mixLadder_6 0 rfl ?_
  refine z_bipush (v := 10) E dX5_mixLadder_8 (by decide) ?_
  refine z_icmp_gt_f (tgt := 34) E dX5_mixLadder_10 (by decide) (by decide) ?_
  refine z_lload E dX5_mixLadder_13 1 rfl ?_
  refine z_aload_n E dX5_mixLadder_15 rfl 2 rfl ?_
  refine z_iload_n E dX5_mixLadder_16 rfl 4 rfl ?_
  refine z_iload E dX5_mixLadder_17 0 rfl ?_
  refine z_callViN E hZ (k_ladder l D ad cI cR cS cL mem (c0 := 0) (s0 := 0) hl (nI k) 5  (fun E u h => zno (dLad5 zTr.rfl' hk) h)) gX5_mixLadder_X5_ladder (n := 2) rfl rfl rfl (by decide +kernel) rfl ⟨(Nat.le_of_ble_eq_true rfl), (Nat.le_of_ble_eq_true rfl)⟩ (C := RX5) rfl 106 cw_lad (As := [.int (nI k), .int 5]) (rest := [.long g5]) rfl (Nat.le_of_ble_eq_true rfl) ⟨(Nat.le_of_ble_eq_true rfl), (Nat.le_of_ble_eq_true rfl)⟩ dX5_mixLadder_19 (fun E u h => zno (dLad5 zTr.rfl' hk) h) (fun r u hp => ?_)
  rw [(zyes (dLad5 zTr.rfl' hk) hp).1, (zyes (dLad5 zTr.rfl' hk) hp).2]
  refine z_i2l (v := ((rv mem k) 5).toInt64) E dX5_mixLadder_22 rfl ?_
  refine z_callSl E hZ (k_mix l D ad cI cR cS cL mem g5 (((rv mem k) 5).toInt64)) gX5_mixLadder_X5_mix (n := 2) rfl rfl rfl (by decide +kernel) rfl ⟨(Nat.le_of_ble_eq_true rfl), (Nat.le_of_ble_eq_true rfl)⟩ (As := [.long g5, .long (((rv mem k) 5).toInt64)]) (rest := []) rfl (Nat.le_of_ble_eq_true rfl) ⟨(Nat.le_of_ble_eq_true rfl), (Nat.le_of_ble_eq_true rfl)⟩ dX5_mixLadder_23 (fun g6 u hg6 => ?_)
  rw [hg6.2]
  refine z_lstore (lv' := [(4, .long g6), (6, .int 5), (0, .ref (ad 106)), (1, .long h), (3, .int (nI k))]) E dX5_mixLadder_26 (by decide) rfl ?_
  refine z_iinc (v := 6) (lv' := [(6, .int 6), (4, .long g6), (0, .ref (ad 106)), (1, .long h), (3, .int (nI k))]) E dX5_mixLadder_28 (q := 1) rfl (by decide) (by decide) rfl ?_
  refine z_goto (tgt := 6) E dX5_mixLadder_31 (by decide) ?_
  refine z_iload E dX5_mixLadder_6 0 rfl ?_
  refine z_bipush (v := 10) E dX5_mixLadder_8 (by decide) ?_
  refine z_icmp_gt_f (tgt := 34) E dX5_mixLadder_10 (by decide) (by decide) ?_
  refine z_lload E dX5_mixLadder_13 1 rfl ?_
  refine z_aload_n E dX5_mixLadder_15 rfl 2 rfl ?_
  refine z_iload_n E dX5_mixLadder_16 rfl 4 rfl ?_
  refine z_iload E dX5_mixLadder_17 0 rfl ?_
  refine z_callViN E hZ (k_ladder l D ad cI cR cS cL mem (c0 := 0) (s0 := 0) hl (nI k) 6  (fun E u h => zno (dLad6 zTr.rfl' hk) h)) gX5_mixLadder_X5_ladder (n := 2) rfl rfl rfl (by decide +kernel) rfl ⟨(Nat.le_of_ble_eq_true rfl), (Nat.le_of_ble_eq_true rfl)⟩ (C := RX5) rfl 106 cw_lad (As := [.int (nI k), .int 6]) (rest := [.long g6]) rfl (Nat.le_of_ble_eq_true rfl) ⟨(Nat.le_of_ble_eq_true rfl), (Nat.le_of_ble_eq_true rfl)⟩ dX5_mixLadder_19 (fun E u h => zno (dLad6 zTr.rfl' hk) h) (fun r u hp => ?_)
  rw [(zyes (dLad6 zTr.rfl' hk) hp).1, (zyes (dLad6 zTr.rfl' hk) hp).2]
  refine z_i2l (v := ((rv mem k) 7).toInt64) E dX5_mixLadder_22 rfl ?_
  refine z_callSl E hZ (k_mix l D ad cI cR cS cL mem g6 (((rv mem k) 7).toInt64)) gX5_mixLadder_X5_mix (n := 2) rfl rfl rfl (by decide +kernel) rfl ⟨(Nat.le_of_ble_eq_true rfl), (Nat.le_of_ble_eq_true rfl)⟩ (As := [.long g6, .long (((rv mem k) 7).toInt64)]) (rest := []) rfl (Nat.le_of_ble_eq_true rfl) ⟨(Nat.le_of_ble_eq_true rfl), (Nat.le_of_ble_eq_true rfl)⟩ dX5_mixLadder_23 (fun g7 u hg7 => ?_)
  rw [hg7.2]
  refine z_lstore (lv' := [(4, .long g7), (6, .int 6), (0, .ref (ad 106)), (1, .long h), (3, .int (nI k))]) E dX5_mixLadder_26 (by decide) rfl ?_
  refine z_iinc (v := 7) (lv' := [(6, .int 7), (4, .long g7), (0, .ref (ad 106)), (1, .long h), (3, .int (nI k))]) E dX5_mixLadder_28 (q := 1) rfl (by decide) (by decide) rfl ?_
  refine z_goto (tgt := 6) E dX5_mixLadder_31 (by decide) ?_
  refine z_iload E dX5_mixLadder_6 0 rfl ?_
  refine z_bipush (v := 10) E dX5_mixLadder_8 (by decide) ?_
  refine z_icmp_gt_f (tgt := 34) E dX5_mixLadder_10 (by decide) (by decide) ?_
  refine z_lload E dX5_mixLadder_13 1 rfl ?_
  refine z_aload_n E dX5_mixLadder_15 rfl 2 rfl ?_
  refine z_iload_n E dX5_mixLadder_16 rfl 4 rfl ?_
  refine z_iload E dX5_mixLadder_17 0 rfl ?_
  refine z_callViN E hZ (k_ladder l D ad cI cR cS cL mem (c0 := 0) (s0 := 0) hl (nI k) 7  (fun E u h => zno (dLad7 zTr.rfl' hk) h)) gX5_mixLadder_X5_ladder (n := 2) rfl rfl rfl (by decide +kernel) rfl ⟨(Nat.le_of_ble_eq_true rfl), (Nat.le_of_ble_eq_true rfl)⟩ (C := RX5) rfl 106 cw_lad (As := [.int (nI k), .int 7]) (rest := [.long g7]) rfl (Nat.le_of_ble_eq_true rfl) ⟨(Nat.le_of_ble_eq_true rfl), (Nat.le_of_ble_eq_true rfl)⟩ dX5_mixLadder_19 (fun E u h => zno (dLad7 zTr.rfl' hk) h) (fun r u hp => ?_)
  rw [(zyes (dLad7 zTr.rfl' hk) hp).1, (zyes (dLad7 zTr.rfl' hk) hp).2]
  refine z_i2l (v := (fLoad (rv mem k)).toInt64) E dX5_mixLadder_22 rfl ?_
  refine z_callSl E hZ (k_mix l D ad cI cR cS cL mem g7 ((fLoad (rv mem k)).toInt64)) gX5_mixLadder_X5_mix (n := 2) rfl rfl rfl (by decide +kernel) rfl ⟨(Nat.le_of_ble_eq_true rfl), (Nat.le_of_ble_eq_true rfl)⟩ (As := [.long g7, .long ((fLoad (rv mem k)).toInt64)]) (rest := []) rfl (Nat.le_of_ble_eq_true rfl) ⟨(Nat.le_of_ble_eq_true rfl), (Nat.le_of_ble_eq_true rfl)⟩ dX5_mixLadder_23 (fun g8 u hg8 => ?_)
  rw [hg8.2]
  refine z_lstore (lv' := [(4, .long g8), (6, .int 7), (0, .ref (ad 106)), (1, .long h), (3, .int (nI k))]) E dX5_mixLadder_26 (by decide) rfl ?_
  refine z_iinc (v := 8) (lv' := [(6, .int 8), (4, .long g8), (0, .ref (ad 106)), (1, .long h), (3, .int (nI k))]) E dX5_mixLadder_28 (q := 1) rfl (by decide) (by decide) rfl ?_
  refine z_goto (tgt := 6) E dX5_mixLadder_31 (by decide) ?_
  refine z_iload E dX5_mixLadder_6 0 rfl ?_
  refine z_bipush (v := 10) E dX5_mixLadder_8 (by decide) ?_
  refine z_icmp_gt_f (tgt := 34) E dX5_mixLadder_10 (by decide) (by decide) ?_
  refine z_lload E dX5_mixLadder_13 1 rfl ?_
  refine z_aload_n E dX5_mixLadder_15 rfl 2 rfl ?_
  refine z_iload_n E dX5_mixLadder_16 rfl 4 rfl ?_
  refine z_iload E dX5_mixLadder_17 0 rfl ?_
  refine z_callViN E hZ (k_ladder l D ad cI cR cS cL mem (c0 := 0) (s0 := 0) hl (nI k) 8  (fun E u h => zno (dLad8 zTr.rfl' hk) h)) gX5_mixLadder_X5_ladder (n := 2) rfl rfl rfl (by decide +kernel) rfl ⟨(Nat.le_of_ble_eq_true rfl), (Nat.le_of_ble_eq_true rfl)⟩ (C := RX5) rfl 106 cw_lad (As := [.int (nI k), .int 8]) (rest := [.long g8]) rfl (Nat.le_of_ble_eq_true rfl) ⟨(Nat.le_of_ble_eq_true rfl), (Nat.le_of_ble_eq_true rfl)⟩ dX5_mixLadder_19 (fun E u h => zno (dLad8 zTr.rfl' hk) h) (fun r u hp => ?_)
  rw [(zyes (dLad8 zTr.rfl' hk) hp).1, (zyes (dLad8 zTr.rfl' hk) hp).2]
  refine z_i2l (v := (fMoment (rv mem k)).toInt64) E dX5_mixLadder_22 rfl ?_
  refine z_callSl E hZ (k_mix l D ad cI cR cS cL mem g8 ((fMoment (rv mem k)).toInt64)) gX5_mixLadder_X5_mix (n := 2) rfl rfl rfl (by decide +kernel) rfl ⟨(Nat.le_of_ble_eq_true rfl), (Nat.le_of_ble_eq_true rfl)⟩ (As := [.long g8, .long ((fMoment (rv mem k)).toInt64)]) (rest := []) rfl (Nat.le_of_ble_eq_true rfl) ⟨(Nat.le_of_ble_eq_true rfl), (Nat.le_of_ble_eq_true rfl)⟩ dX5_mixLadder_23 (fun g9 u hg9 => ?_)
  rw [hg9.2]
  refine z_lstore (lv' := [(4, .long g9), (6, .int 8), (0, .ref (ad 106)), (1, .long h), (3, .int (nI k))]) E dX5_mixLadder_26 (by decide) rfl ?_
  refine z_iinc (v := 9) (lv' := [(6, .int 9), (4, .long g9), (0, .ref (ad 106)), (1, .long h), (3, .int (nI k))]) E dX5_mixLadder_28 (q := 1) rfl (by decide) (by decide) rfl ?_
  refine z_goto (tgt := 6) E dX5_mixLadder_31 (by decide) ?_
  refine z_iload E dX5_mixLadder_6 0 rfl ?_
  refine z_bipush (v := 10) E dX5_mixLadder_8 (by decide) ?_
  refine z_icmp_gt_f (tgt := 34) E dX5_mixLadder_10 (by decide) (by decide) ?_
  refine z_lload E dX5_mixLadder_13 1 rfl ?_
  refine z_aload_n E dX5_mixLadder_15 rfl 2 rfl ?_
  refine z_iload_n E dX5_mixLadder_16 rfl 4 rfl ?_
  refine z_iload E dX5_mixLadder_17 0 rfl ?_
  refine z_callViN E hZ (k_ladder l D ad cI cR cS cL mem (c0 := 0) (s0 := 0) hl (nI k) 9  (fun E u h => zno (dLad9 zTr.rfl' hk) h)) gX5_mixLadder_X5_ladder (n := 2) rfl rfl rfl (by decide +kernel) rfl ⟨(Nat.le_of_ble_eq_true rfl), (Nat.le_of_ble_eq_true rfl)⟩ (C := RX5) rfl 106 cw_lad (As := [.int (nI k), .int 9]) (rest := [.long g9]) rfl (Nat.le_of_ble_eq_true rfl) ⟨(Nat.le_of_ble_eq_true rfl), (Nat.le_of_ble_eq_true rfl)⟩ dX5_mixLadder_19 (fun E u h => zno (dLad9 zTr.rfl' hk) h) (fun r u hp => ?_)
  rw [(zyes (dLad9 zTr.rfl' hk) hp).1, (zyes (dLad9 zTr.rfl' hk) hp).2]
  refine z_i2l (v := ((rv mem k) 6).toInt64) E dX5_mixLadder_22 rfl ?_
  refine z_callSl E hZ (k_mix l D ad cI cR cS cL mem g9 (((rv mem k) 6).toInt64)) gX5_mixLadder_X5_mix (n := 2) rfl rfl rfl (by decide +kernel) rfl ⟨(Nat.le_of_ble_eq_true rfl), (Nat.le_of_ble_eq_true rfl)⟩ (As := [.long g9, .long (((rv mem k) 6).toInt64)]) (rest := []) rfl (Nat.le_of_ble_eq_true rfl) ⟨(Nat.le_of_ble_eq_true rfl), (Nat.le_of_ble_eq_true rfl)⟩ dX5_mixLadder_23 (fun g10 u hg10 => ?_)
  rw [hg10.2]
  refine z_lstore (lv' := [(4, .long g10), (6, .int 9), (0, .ref (ad 106)), (1, .long h), (3, .int (nI k))]) E dX5_mixLadder_26 (by decide) rfl ?_
  refine z_iinc (v := 10) (lv' := [(6, .int 10), (4, .long g10), (0, .ref (ad 106)), (1, .long h), (3, .int (nI k))]) E dX5_mixLadder_28 (q := 1) rfl (by decide) (by decide) rfl ?_
  refine z_goto (tgt := 6) E dX5_mixLadder_31 (by decide) ?_
  refine z_iload E dX5_mixLadder_6 0 rfl ?_
  refine z_bipush (v := 10) E dX5_mixLadder_8 (by decide) ?_
  refine z_icmp_gt_f (tgt := 34) E dX5_mixLadder_10 (by decide) (by decide) ?_
  refine z_lload E dX5_mixLadder_13 1 rfl ?_
  refine z_aload_n E dX5_mixLadder_15 rfl 2 rfl ?_
  refine z_iload_n E dX5_mixLadder_16 rfl 4 rfl ?_
  refine z_iload E dX5_mixLadder_17 0 rfl ?_
  refine z_callViN E hZ (k_ladder l D ad cI cR cS cL mem (c0 := 0) (s0 := 0) hl (nI k) 10  (fun E u h => zno (dLad10 zTr.rfl' hk) h)) gX5_mixLadder_X5_ladder (n := 2) rfl rfl rfl (by decide +kernel) rfl ⟨(Nat.le_of_ble_eq_true rfl), (Nat.le_of_ble_eq_true rfl)⟩ (C := RX5) rfl 106 cw_lad (As := [.int (nI k), .int 10]) (rest := [.long g10]) rfl (Nat.le_of_ble_eq_true rfl) ⟨(Nat.le_of_ble_eq_true rfl), (Nat.le_of_ble_eq_true rfl)⟩ dX5_mixLadder_19 (fun E u h => zno (dLad10 zTr.rfl' hk) h) (fun r u hp => ?_)
  rw [(zyes (dLad10 zTr.rfl' hk) hp).1, (zyes (dLad10 zTr.rfl' hk) hp).2]
  refine z_i2l (v := (fStands (rv mem k)).toInt64) E dX5_mixLadder_22 rfl ?_
  refine z_callSl E hZ (k_mix l D ad cI cR cS cL mem g10 ((fStands (rv mem k)).toInt64)) gX5_mixLadder_X5_mix (n := 2) rfl rfl rfl (by decide +kernel) rfl ⟨(Nat.le_of_ble_eq_true rfl), (Nat.le_of_ble_eq_true rfl)⟩ (As := [.long g10, .long ((fStands (rv mem k)).toInt64)]) (rest := []) rfl (Nat.le_of_ble_eq_true rfl) ⟨(Nat.le_of_ble_eq_true rfl), (Nat.le_of_ble_eq_true rfl)⟩ dX5_mixLadder_23 (fun g11 u hg11 => ?_)
  rw [hg11.2]
  refine z_lstore (lv' := [(4, .long g11), (6, .int 10), (0, .ref (ad 106)), (1, .long h), (3, .int (nI k))]) E dX5_mixLadder_26 (by decide) rfl ?_
  refine z_iinc (v := 11) (lv' := [(6, .int 11), (4, .long g11), (0, .ref (ad 106)), (1, .long h), (3, .int (nI k))]) E dX5_mixLadder_28 (q := 1) rfl (by decide) (by decide) rfl ?_
  refine z_goto (tgt := 6) E dX5_mixLadder_31 (by decide) ?_
  refine z_iload E dX5_mixLadder_6 0 rfl ?_
  refine z_bipush (v := 10) E dX5_mixLadder_8 (by decide) ?_
  refine z_icmp_gt_t (tgt := 34) E dX5_mixLadder_10 (by decide) (by decide) ?_
  have e1 : g11 = zMx h (zLL (rv mem k)) := by rw [hg11.1, hg10.1, hg9.1, hg8.1, hg7.1, hg6.1, hg5.1, hg4.1, hg3.1, hg2.1, hg1.1]; rfl
  refine z_iconst (v := 0) E dX5_mixLadder_34 (by decide) ?_
  refine z_istore (lv' := [(6, .int 0), (4, .long g11), (0, .ref (ad 106)), (1, .long h), (3, .int (nI k))]) E dX5_mixLadder_35 (by decide) rfl ?_
  refine z_iload E dX5_mixLadder_37 0 rfl ?_
  refine z_iconst (v := 5) E dX5_mixLadder_39 (by decide) ?_
  refine z_icmp_gt_f (tgt := 64) E dX5_mixLadder_40 (by decide) (by decide) ?_
  refine z_lload E dX5_mixLadder_43 1 rfl ?_
  refine z_aload_n E dX5_mixLadder_45 rfl 2 rfl ?_
  refine z_iload_n E dX5_mixLadder_46 rfl 4 rfl ?_
  refine z_iload E dX5_mixLadder_47 0 rfl ?_
  refine z_callViN E hZ (k_force l D ad cI cR cS cL mem (c0 := 0) (s0 := 0) hl (nI k) 0  (fun E u h => zno (dFor0 zTr.rfl' hk) h)) gX5_mixLadder_X5_force (n := 2) rfl rfl rfl (by decide +kernel) rfl ⟨(Nat.le_of_ble_eq_true rfl), (Nat.le_of_ble_eq_true rfl)⟩ (C := RX5) rfl 106 cw_lad (As := [.int (nI k), .int 0]) (rest := [.long g11]) rfl (Nat.le_of_ble_eq_true rfl) ⟨(Nat.le_of_ble_eq_true rfl), (Nat.le_of_ble_eq_true rfl)⟩ dX5_mixLadder_49 (fun E u h => zno (dFor0 zTr.rfl' hk) h) (fun r u hp => ?_)
  rw [(zyes (dFor0 zTr.rfl' hk) hp).1, (zyes (dFor0 zTr.rfl' hk) hp).2]
  refine z_i2l (v := (if fStands (rv mem k) = 0 then -1 else fLeast (rv mem k) + 1000).toInt64) E dX5_mixLadder_52 rfl ?_
  refine z_callSl E hZ (k_mix l D ad cI cR cS cL mem g11 ((if fStands (rv mem k) = 0 then -1 else fLeast (rv mem k) + 1000).toInt64)) gX5_mixLadder_X5_mix (n := 2) rfl rfl rfl (by decide +kernel) rfl ⟨(Nat.le_of_ble_eq_true rfl), (Nat.le_of_ble_eq_true rfl)⟩ (As := [.long g11, .long ((if fStands (rv mem k) = 0 then -1 else fLeast (rv mem k) + 1000).toInt64)]) (rest := []) rfl (Nat.le_of_ble_eq_true rfl) ⟨(Nat.le_of_ble_eq_true rfl), (Nat.le_of_ble_eq_true rfl)⟩ dX5_mixLadder_53 (fun g12 u hg12 => ?_)
  rw [hg12.2]
  refine z_lstore (lv' := [(4, .long g12), (6, .int 0), (0, .ref (ad 106)), (1, .long h), (3, .int (nI k))]) E dX5_mixLadder_56 (by decide) rfl ?_
  refine z_iinc (v := 1) (lv' := [(6, .int 1), (4, .long g12), (0, .ref (ad 106)), (1, .long h), (3, .int (nI k))]) E dX5_mixLadder_58 (q := 1) rfl (by decide) (by decide) rfl ?_
  refine z_goto (tgt := 37) E dX5_mixLadder_61 (by decide) ?_
  refine z_iload E dX5_mixLadder_37 0 rfl ?_
  refine z_iconst (v := 5) E dX5_mixLadder_39 (by decide) ?_
  refine z_icmp_gt_f (tgt := 64) E dX5_mixLadder_40 (by decide) (by decide) ?_
  refine z_lload E dX5_mixLadder_43 1 rfl ?_
  refine z_aload_n E dX5_mixLadder_45 rfl 2 rfl ?_
  refine z_iload_n E dX5_mixLadder_46 rfl 4 rfl ?_
  refine z_iload E dX5_mixLadder_47 0 rfl ?_
  refine z_callViN E hZ (k_force l D ad cI cR cS cL mem (c0 := 0) (s0 := 0) hl (nI k) 1  (fun E u h => zno (dFor1 zTr.rfl' hk) h)) gX5_mixLadder_X5_force (n := 2) rfl rfl rfl (by decide +kernel) rfl ⟨(Nat.le_of_ble_eq_true rfl), (Nat.le_of_ble_eq_true rfl)⟩ (C := RX5) rfl 106 cw_lad (As := [.int (nI k), .int 1]) (rest := [.long g12]) rfl (Nat.le_of_ble_eq_true rfl) ⟨(Nat.le_of_ble_eq_true rfl), (Nat.le_of_ble_eq_true rfl)⟩ dX5_mixLadder_49 (fun E u h => zno (dFor1 zTr.rfl' hk) h) (fun r u hp => ?_)
  rw [(zyes (dFor1 zTr.rfl' hk) hp).1, (zyes (dFor1 zTr.rfl' hk) hp).2]
  refine z_i2l (v := (if fStands (rv mem k) = 0 then -1 else fGreat (rv mem k) + 1000).toInt64) E dX5_mixLadder_52 rfl ?_
  refine z_callSl E hZ (k_mix l D ad cI cR cS cL mem g12 ((if fStands (rv mem k) = 0 then -1 else fGreat (rv mem k) + 1000).toInt64)) gX5_mixLadder_X5_mix (n := 2) rfl rfl rfl (by decide +kernel) rfl ⟨(Nat.le_of_ble_eq_true rfl), (Nat.le_of_ble_eq_true rfl)⟩ (As := [.long g12, .long ((if fStands (rv mem k) = 0 then -1 else fGreat (rv mem k) + 1000).toInt64)]) (rest := []) rfl (Nat.le_of_ble_eq_true rfl) ⟨(Nat.le_of_ble_eq_true rfl), (Nat.le_of_ble_eq_true rfl)⟩ dX5_mixLadder_53 (fun g13 u hg13 => ?_)
  rw [hg13.2]
  refine z_lstore (lv' := [(4, .long g13), (6, .int 1), (0, .ref (ad 106)), (1, .long h), (3, .int (nI k))]) E dX5_mixLadder_56 (by decide) rfl ?_
  refine z_iinc (v := 2) (lv' := [(6, .int 2), (4, .long g13), (0, .ref (ad 106)), (1, .long h), (3, .int (nI k))]) E dX5_mixLadder_58 (q := 1) rfl (by decide) (by decide) rfl ?_
  refine z_goto (tgt := 37) E dX5_mixLadder_61 (by decide) ?_
  refine z_iload E dX5_mixLadder_37 0 rfl ?_
  refine z_iconst (v := 5) E dX5_mixLadder_39 (by decide) ?_
  refine z_icmp_gt_f (tgt := 64) E dX5_mixLadder_40 (by decide) (by decide) ?_
  refine z_lload E dX5_mixLadder_43 1 rfl ?_
  refine z_aload_n E dX5_mixLadder_45 rfl 2 rfl ?_
  refine z_iload_n E dX5_mixLadder_46 rfl 4 rfl ?_
  refine z_iload E dX5_mixLadder_47 0 rfl ?_
  refine z_callViN E hZ (k_force l D ad cI cR cS cL mem (c0 := 0) (s0 := 0) hl (nI k) 2  (fun E u h => zno (dFor2 zTr.rfl' hk) h)) gX5_mixLadder_X5_force (n := 2) rfl rfl rfl (by decide +kernel) rfl ⟨(Nat.le_of_ble_eq_true rfl), (Nat.le_of_ble_eq_true rfl)⟩ (C := RX5) rfl 106 cw_lad (As := [.int (nI k), .int 2]) (rest := [.long g13]) rfl (Nat.le_of_ble_eq_true rfl) ⟨(Nat.le_of_ble_eq_true rfl), (Nat.le_of_ble_eq_true rfl)⟩ dX5_mixLadder_49 (fun E u h => zno (dFor2 zTr.rfl' hk) h) (fun r u hp => ?_)
  rw [(zyes (dFor2 zTr.rfl' hk) hp).1, (zyes (dFor2 zTr.rfl' hk) hp).2]
  refine z_i2l (v := (fForces (rv mem k)).toInt64) E dX5_mixLadder_52 rfl ?_
  refine z_callSl E hZ (k_mix l D ad cI cR cS cL mem g13 ((fForces (rv mem k)).toInt64)) gX5_mixLadder_X5_mix (n := 2) rfl rfl rfl (by decide +kernel) rfl ⟨(Nat.le_of_ble_eq_true rfl), (Nat.le_of_ble_eq_true rfl)⟩ (As := [.long g13, .long ((fForces (rv mem k)).toInt64)]) (rest := []) rfl (Nat.le_of_ble_eq_true rfl) ⟨(Nat.le_of_ble_eq_true rfl), (Nat.le_of_ble_eq_true rfl)⟩ dX5_mixLadder_53 (fun g14 u hg14 => ?_)
  rw [hg14.2]
  refine z_lstore (lv' := [(4, .long g14), (6, .int 2), (0, .ref (ad 106)), (1, .long h), (3, .int (nI k))]) E dX5_mixLadder_56 (by decide) rfl ?_
  refine z_iinc (v := 3) (lv' := [(6, .int 3), (4, .long g14), (0, .ref (ad 106)), (1, .long h), (3, .int (nI k))]) E dX5_mixLadder_58 (q := 1) rfl (by decide) (by decide) rfl ?_
  refine z_goto (tgt := 37) E dX5_mixLadder_61 (by decide) ?_
  refine z_iload E dX5_mixLadder_37 0 rfl ?_
  refine z_iconst (v := 5) E dX5_mixLadder_39 (by decide) ?_
  refine z_icmp_gt_f (tgt := 64) E dX5_mixLadder_40 (by decide) (by decide) ?_
  refine z_lload E dX5_mixLadder_43 1 rfl ?_
  refine z_aload_n E dX5_mixLadder_45 rfl 2 rfl ?_
  refine z_iload_n E dX5_mixLadder_46 rfl 4 rfl ?_
  refine z_iload E dX5_mixLadder_47 0 rfl ?_
  refine z_callViN E hZ (k_force l D ad cI cR cS cL mem (c0 := 0) (s0 := 0) hl (nI k) 3  (fun E u h => zno (dFor3 zTr.rfl' hk) h)) gX5_mixLadder_X5_force (n := 2) rfl rfl rfl (by decide +kernel) rfl ⟨(Nat.le_of_ble_eq_true rfl), (Nat.le_of_ble_eq_true rfl)⟩ (C := RX5) rfl 106 cw_lad (As := [.int (nI k), .int 3]) (rest := [.long g14]) rfl (Nat.le_of_ble_eq_true rfl) ⟨(Nat.le_of_ble_eq_true rfl), (Nat.le_of_ble_eq_true rfl)⟩ dX5_mixLadder_49 (fun E u h => zno (dFor3 zTr.rfl' hk) h) (fun r u hp => ?_)
  rw [(zyes (dFor3 zTr.rfl' hk) hp).1, (zyes (dFor3 zTr.rfl' hk) hp).2]
  refine z_i2l (v := (if fStands (rv mem k) = 0 then -1 else fNearest (rv mem k) + 1000).toInt64) E dX5_mixLadder_52 rfl ?_
  refine z_callSl E hZ (k_mix l D ad cI cR cS cL mem g14 ((if fStands (rv mem k) = 0 then -1 else fNearest (rv mem k) + 1000).toInt64)) gX5_mixLadder_X5_mix (n := 2) rfl rfl rfl (by decide +kernel) rfl ⟨(Nat.le_of_ble_eq_true rfl), (Nat.le_of_ble_eq_true rfl)⟩ (As := [.long g14, .long ((if fStands (rv mem k) = 0 then -1 else fNearest (rv mem k) + 1000).toInt64)]) (rest := []) rfl (Nat.le_of_ble_eq_true rfl) ⟨(Nat.le_of_ble_eq_true rfl), (Nat.le_of_ble_eq_true rfl)⟩ dX5_mixLadder_53 (fun g15 u hg15 => ?_)
  rw [hg15.2]
  refine z_lstore (lv' := [(4, .long g15), (6, .int 3), (0, .ref (ad 106)), (1, .long h), (3, .int (nI k))]) E dX5_mixLadder_56 (by decide) rfl ?_
  refine z_iinc (v := 4) (lv' := [(6, .int 4), (4, .long g15), (0, .ref (ad 106)), (1, .long h), (3, .int (nI k))]) E dX5_mixLadder_58 (q := 1) rfl (by decide) (by decide) rfl ?_
  refine z_goto (tgt := 37) E dX5_mixLadder_61 (by decide) ?_
  refine z_iload E dX5_mixLadder_37 0 rfl ?_
  refine z_iconst (v := 5) E dX5_mixLadder_39 (by decide) ?_
  refine z_icmp_gt_f (tgt := 64) E dX5_mixLadder_40 (by decide) (by decide) ?_
  refine z_lload E dX5_mixLadder_43 1 rfl ?_
  refine z_aload_n E dX5_mixLadder_45 rfl 2 rfl ?_
  refine z_iload_n E dX5_mixLadder_46 rfl 4 rfl ?_
  refine z_iload E dX5_mixLadder_47 0 rfl ?_
  refine z_callViN E hZ (k_force l D ad cI cR cS cL mem (c0 := 0) (s0 := 0) hl (nI k) 4  (fun E u h => zno (dFor4 zTr.rfl' hk) h)) gX5_mixLadder_X5_force (n := 2) rfl rfl rfl (by decide +kernel) rfl ⟨(Nat.le_of_ble_eq_true rfl), (Nat.le_of_ble_eq_true rfl)⟩ (C := RX5) rfl 106 cw_lad (As := [.int (nI k), .int 4]) (rest := [.long g15]) rfl (Nat.le_of_ble_eq_true rfl) ⟨(Nat.le_of_ble_eq_true rfl), (Nat.le_of_ble_eq_true rfl)⟩ dX5_mixLadder_49 (fun E u h => zno (dFor4 zTr.rfl' hk) h) (fun r u hp => ?_)
  rw [(zyes (dFor4 zTr.rfl' hk) hp).1, (zyes (dFor4 zTr.rfl' hk) hp).2]
  refine z_i2l (v := (if fStands (rv mem k) = 0 then -1 else fPush (rv mem k) (fNearest (rv mem k))).toInt64) E dX5_mixLadder_52 rfl ?_
  refine z_callSl E hZ (k_mix l D ad cI cR cS cL mem g15 ((if fStands (rv mem k) = 0 then -1 else fPush (rv mem k) (fNearest (rv mem k))).toInt64)) gX5_mixLadder_X5_mix (n := 2) rfl rfl rfl (by decide +kernel) rfl ⟨(Nat.le_of_ble_eq_true rfl), (Nat.le_of_ble_eq_true rfl)⟩ (As := [.long g15, .long ((if fStands (rv mem k) = 0 then -1 else fPush (rv mem k) (fNearest (rv mem k))).toInt64)]) (rest := []) rfl (Nat.le_of_ble_eq_true rfl) ⟨(Nat.le_of_ble_eq_true rfl), (Nat.le_of_ble_eq_true rfl)⟩ dX5_mixLadder_53 (fun g16 u hg16 => ?_)
  rw [hg16.2]
  refine z_lstore (lv' := [(4, .long g16), (6, .int 4), (0, .ref (ad 106)), (1, .long h), (3, .int (nI k))]) E dX5_mixLadder_56 (by decide) rfl ?_
  refine z_iinc (v := 5) (lv' := [(6, .int 5), (4, .long g16), (0, .ref (ad 106)), (1, .long h), (3, .int (nI k))]) E dX5_mixLadder_58 (q := 1) rfl (by decide) (by decide) rfl ?_
  refine z_goto (tgt := 37) E dX5_mixLadder_61 (by decide) ?_
  refine z_iload E dX5_mixLadder_37 0 rfl ?_
  refine z_iconst (v := 5) E dX5_mixLadder_39 (by decide) ?_
  refine z_icmp_gt_f (tgt := 64) E dX5_mixLadder_40 (by decide) (by decide) ?_
  refine z_lload E dX5_mixLadder_43 1 rfl ?_
  refine z_aload_n E dX5_mixLadder_45 rfl 2 rfl ?_
  refine z_iload_n E dX5_mixLadder_46 rfl 4 rfl ?_
  refine z_iload E dX5_mixLadder_47 0 rfl ?_
  refine z_callViN E hZ (k_force l D ad cI cR cS cL mem (c0 := 0) (s0 := 0) hl (nI k) 5  (fun E u h => zno (dFor5 zTr.rfl' hk) h)) gX5_mixLadder_X5_force (n := 2) rfl rfl rfl (by decide +kernel) rfl ⟨(Nat.le_of_ble_eq_true rfl), (Nat.le_of_ble_eq_true rfl)⟩ (C := RX5) rfl 106 cw_lad (As := [.int (nI k), .int 5]) (rest := [.long g16]) rfl (Nat.le_of_ble_eq_true rfl) ⟨(Nat.le_of_ble_eq_true rfl), (Nat.le_of_ble_eq_true rfl)⟩ dX5_mixLadder_49 (fun E u h => zno (dFor5 zTr.rfl' hk) h) (fun r u hp => ?_)
  rw [(zyes (dFor5 zTr.rfl' hk) hp).1, (zyes (dFor5 zTr.rfl' hk) hp).2]
  refine z_i2l (v := (if fStands (rv mem k) = 0 then -1 else fLoad (rv mem k) - fNearest (rv mem k)).toInt64) E dX5_mixLadder_52 rfl ?_
  refine z_callSl E hZ (k_mix l D ad cI cR cS cL mem g16 ((if fStands (rv mem k) = 0 then -1 else fLoad (rv mem k) - fNearest (rv mem k)).toInt64)) gX5_mixLadder_X5_mix (n := 2) rfl rfl rfl (by decide +kernel) rfl ⟨(Nat.le_of_ble_eq_true rfl), (Nat.le_of_ble_eq_true rfl)⟩ (As := [.long g16, .long ((if fStands (rv mem k) = 0 then -1 else fLoad (rv mem k) - fNearest (rv mem k)).toInt64)]) (rest := []) rfl (Nat.le_of_ble_eq_true rfl) ⟨(Nat.le_of_ble_eq_true rfl), (Nat.le_of_ble_eq_true rfl)⟩ dX5_mixLadder_53 (fun g17 u hg17 => ?_)
  rw [hg17.2]
  refine z_lstore (lv' := [(4, .long g17), (6, .int 5), (0, .ref (ad 106)), (1, .long h), (3, .int (nI k))]) E dX5_mixLadder_56 (by decide) rfl ?_
  refine z_iinc (v := 6) (lv' := [(6, .int 6), (4, .long g17), (0, .ref (ad 106)), (1, .long h), (3, .int (nI k))]) E dX5_mixLadder_58 (q := 1) rfl (by decide) (by decide) rfl ?_
  refine z_goto (tgt := 37) E dX5_mixLadder_61 (by decide) ?_
  refine z_iload E dX5_mixLadder_37 0 rfl ?_
  refine z_iconst (v := 5) E dX5_mixLadder_39 (by decide) ?_
  refine z_icmp_gt_t (tgt := 64) E dX5_mixLadder_40 (by decide) (by decide) ?_
  have e2 : g17 = zMx g11 (zLF (rv mem k)) := by rw [hg17.1, hg16.1, hg15.1, hg14.1, hg13.1, hg12.1]; rfl
  refine z_aload_n E dX5_mixLadder_64 rfl 2 rfl ?_
  refine z_iload_n E dX5_mixLadder_65 rfl 4 rfl ?_
  refine z_bipush (v := 6) E dX5_mixLadder_66 (by decide) ?_
  refine z_callViN E hZ (k_ladder l D ad cI cR cS cL mem (c0 := 0) (s0 := 0) hl (nI k) 6  (fun E u h => zno (dLad6 zTr.rfl' hk) h)) gX5_mixLadder_X5_ladder (n := 2) rfl rfl rfl (by decide +kernel) rfl ⟨(Nat.le_of_ble_eq_true rfl), (Nat.le_of_ble_eq_true rfl)⟩ (C := RX5) rfl 106 cw_lad (As := [.int (nI k), .int 6]) (rest := []) rfl (Nat.le_of_ble_eq_true rfl) ⟨(Nat.le_of_ble_eq_true rfl), (Nat.le_of_ble_eq_true rfl)⟩ dX5_mixLadder_68 (fun E u h => zno (dLad6 zTr.rfl' hk) h) (fun r u hp => ?_)
  rw [(zyes (dLad6 zTr.rfl' hk) hp).1, (zyes (dLad6 zTr.rfl' hk) hp).2]
  rw [h7]
  refine z_istore (lv' := [(6, .int (nI pp)), (4, .long g17), (0, .ref (ad 106)), (1, .long h), (3, .int (nI k))]) E dX5_mixLadder_71 (by decide) rfl ?_
  refine z_iconst (v := 0) E dX5_mixLadder_73 (by decide) ?_
  refine z_istore (lv' := [(7, .int 0), (6, .int (nI pp)), (4, .long g17), (0, .ref (ad 106)), (1, .long h), (3, .int (nI k))]) E dX5_mixLadder_74 (by decide) rfl ?_
  refine z_lv [0, 2, 1, 3, 4, 5] (lv' := [(7, .int 0), (4, .long g17), (6, .int (nI pp)), (0, .ref (ad 106)), (1, .long h), (3, .int (nI k))]) rfl ?_
  refine z_loop (σ := zM × Nat × Int64) (fun n y => y.2.1 + n = pp ∧ zTr mem y.1 ∧ y.2.2 = zMx g17 (zPers (rv mem k) y.2.1)) (fun y => cw ad cI cR cS y.1) (fun y => [(7, .int (nI y.2.1)), (4, .long y.2.2), (6, .int (nI pp)), (0, .ref (ad 106)), (1, .long h), (3, .int (nI k))]) 76 0 0 ?_ pp (mem, 0, g17) ⟨Nat.zero_add _, zTr.rfl', rfl⟩ rfl rfl rfl rfl rfl
  rintro n ⟨m, t, hh0⟩ ⟨htn, htr, hh⟩ ih
  dsimp only at htn htr hh ⊢
  refine z_iload E dX5_mixLadder_76 0 rfl ?_
  refine z_iload E dX5_mixLadder_78 2 rfl ?_
  refine z_icmp_ge (tgt := 136) E dX5_mixLadder_80 (by decide) (fun c80 => ?_) (fun c80 => ?_)
  · skip
    have htp : t = pp := by have := (nI_leI (a := pp) (b := t) (by omega) (by omega)).mp c80; omega
    have e3 : hh0 = zMx g17 (zPers (rv mem k) pp) := by rw [hh, htp]
    refine z_lload E dX5_mixLadder_136 1 rfl ?_
    refine z_aload_n E dX5_mixLadder_138 rfl 3 rfl ?_
    refine z_iload_n E dX5_mixLadder_139 rfl 5 rfl ?_
    refine z_callViN E hZ (k_neededRope l D ad cI cR cS cL m (c0 := 0) (s0 := 0) hl (nI k)  (fun E h => znol (dNeeded htr hk) h)) gX5_mixLadder_X5_neededRope (n := 1) rfl rfl rfl (by decide +kernel) rfl ⟨(Nat.le_of_ble_eq_true rfl), (Nat.le_of_ble_eq_true rfl)⟩ (C := RX5) rfl 106 cw_lad (As := [.int (nI k)]) (rest := [.long hh0]) rfl (Nat.le_of_ble_eq_true rfl) ⟨(Nat.le_of_ble_eq_true rfl), (Nat.le_of_ble_eq_true rfl)⟩ dX5_mixLadder_140 (fun E u h => znol (dNeeded htr hk) h.1) (fun r m18 hp => ?_)
    rw [zyesl (dNeeded htr hk) hp.1]
    have tm18 : zTr mem m18 := htr.trans hp.2
    refine z_i2l (v := (fNR (rv mem k)).toInt64) E dX5_mixLadder_143 rfl ?_
    refine z_callSl E hZ (k_mix l D ad cI cR cS cL m18 hh0 ((fNR (rv mem k)).toInt64)) gX5_mixLadder_X5_mix (n := 2) rfl rfl rfl (by decide +kernel) rfl ⟨(Nat.le_of_ble_eq_true rfl), (Nat.le_of_ble_eq_true rfl)⟩ (As := [.long hh0, .long ((fNR (rv mem k)).toInt64)]) (rest := []) rfl (Nat.le_of_ble_eq_true rfl) ⟨(Nat.le_of_ble_eq_true rfl), (Nat.le_of_ble_eq_true rfl)⟩ dX5_mixLadder_144 (fun g19 u hg19 => ?_)
    rw [hg19.2]
    refine z_lstore (lv' := [(4, .long g19), (7, .int (nI t)), (6, .int (nI pp)), (0, .ref (ad 106)), (1, .long h), (3, .int (nI k))]) E dX5_mixLadder_147 (by decide) rfl ?_
    refine z_lload E dX5_mixLadder_149 0 rfl ?_
    refine z_aload_n E dX5_mixLadder_151 rfl 3 rfl ?_
    refine z_iload_n E dX5_mixLadder_152 rfl 5 rfl ?_
    refine z_callViN E hZ (k_bestBase l D ad cI cR cS cL m18 (c0 := 0) (s0 := 0) hl (nI k)  (fun E h => znol (dBest tm18 hk) h)) gX5_mixLadder_X5_bestBase (n := 1) rfl rfl rfl (by decide +kernel) rfl ⟨(Nat.le_of_ble_eq_true rfl), (Nat.le_of_ble_eq_true rfl)⟩ (C := RX5) rfl 106 cw_lad (As := [.int (nI k)]) (rest := [.long g19]) rfl (Nat.le_of_ble_eq_true rfl) ⟨(Nat.le_of_ble_eq_true rfl), (Nat.le_of_ble_eq_true rfl)⟩ dX5_mixLadder_153 (fun E u h => znol (dBest tm18 hk) h.1) (fun r m20 hp => ?_)
    rw [zyesl (dBest tm18 hk) hp.1]
    have tm20 : zTr mem m20 := tm18.trans hp.2
    refine z_i2l (v := (fBB (rv mem k)).toInt64) E dX5_mixLadder_156 rfl ?_
    refine z_callSl E hZ (k_mix l D ad cI cR cS cL m20 g19 ((fBB (rv mem k)).toInt64)) gX5_mixLadder_X5_mix (n := 2) rfl rfl rfl (by decide +kernel) rfl ⟨(Nat.le_of_ble_eq_true rfl), (Nat.le_of_ble_eq_true rfl)⟩ (As := [.long g19, .long ((fBB (rv mem k)).toInt64)]) (rest := []) rfl (Nat.le_of_ble_eq_true rfl) ⟨(Nat.le_of_ble_eq_true rfl), (Nat.le_of_ble_eq_true rfl)⟩ dX5_mixLadder_157 (fun g21 u hg21 => ?_)
    rw [hg21.2]
    refine z_lstore (lv' := [(4, .long g21), (7, .int (nI t)), (6, .int (nI pp)), (0, .ref (ad 106)), (1, .long h), (3, .int (nI k))]) E dX5_mixLadder_160 (by decide) rfl ?_
    refine z_lload E dX5_mixLadder_162 0 rfl ?_
    refine z_aload_n E dX5_mixLadder_164 rfl 3 rfl ?_
    refine z_iload_n E dX5_mixLadder_165 rfl 5 rfl ?_
    refine z_callViN E hZ (k_riskiest l D ad cI cR cS cL m20 (c0 := 0) (s0 := 0) hl (nI k) (zTr3 tm20 h3) (fun E h => znol (dRisk tm20 hk) h)) gX5_mixLadder_X5_riskiest (n := 1) rfl rfl rfl (by decide +kernel) rfl ⟨(Nat.le_of_ble_eq_true rfl), (Nat.le_of_ble_eq_true rfl)⟩ (C := RX5) rfl 106 cw_lad (As := [.int (nI k)]) (rest := [.long g21]) rfl (Nat.le_of_ble_eq_true rfl) ⟨(Nat.le_of_ble_eq_true rfl), (Nat.le_of_ble_eq_true rfl)⟩ dX5_mixLadder_166 (fun E u h => znol (dRisk tm20 hk) h.1) (fun r m22 hp => ?_)
    rw [zyesl (dRisk tm20 hk) hp.1]
    have tm22 : zTr mem m22 := tm20.trans hp.2
    refine z_i2l (v := (fRK (rv mem k)).toInt64) E dX5_mixLadder_169 rfl ?_
    refine z_callSl E hZ (k_mix l D ad cI cR cS cL m22 g21 ((fRK (rv mem k)).toInt64)) gX5_mixLadder_X5_mix (n := 2) rfl rfl rfl (by decide +kernel) rfl ⟨(Nat.le_of_ble_eq_true rfl), (Nat.le_of_ble_eq_true rfl)⟩ (As := [.long g21, .long ((fRK (rv mem k)).toInt64)]) (rest := []) rfl (Nat.le_of_ble_eq_true rfl) ⟨(Nat.le_of_ble_eq_true rfl), (Nat.le_of_ble_eq_true rfl)⟩ dX5_mixLadder_170 (fun g23 u hg23 => ?_)
    rw [hg23.2]
    refine z_lstore (lv' := [(4, .long g23), (7, .int (nI t)), (6, .int (nI pp)), (0, .ref (ad 106)), (1, .long h), (3, .int (nI k))]) E dX5_mixLadder_173 (by decide) rfl ?_
    refine z_lload E dX5_mixLadder_175 0 rfl ?_
    refine z_aload_n E dX5_mixLadder_177 rfl 3 rfl ?_
    refine z_iload_n E dX5_mixLadder_178 rfl 5 rfl ?_
    refine z_callViN E hZ (k_walls l D ad cI cR cS cL m22 (c0 := 0) (s0 := 0) hl (nI k)  (fun E h => znol (dWalls tm22 hk) h)) gX5_mixLadder_X5_walls (n := 1) rfl rfl rfl (by decide +kernel) rfl ⟨(Nat.le_of_ble_eq_true rfl), (Nat.le_of_ble_eq_true rfl)⟩ (C := RX5) rfl 106 cw_lad (As := [.int (nI k)]) (rest := [.long g23]) rfl (Nat.le_of_ble_eq_true rfl) ⟨(Nat.le_of_ble_eq_true rfl), (Nat.le_of_ble_eq_true rfl)⟩ dX5_mixLadder_179 (fun E u h => znol (dWalls tm22 hk) h.1) (fun r m24 hp => ?_)
    rw [zyesl (dWalls tm22 hk) hp.1]
    have tm24 : zTr mem m24 := tm22.trans hp.2
    refine z_i2l (v := (fWL (rv mem k)).toInt64) E dX5_mixLadder_182 rfl ?_
    refine z_callSl E hZ (k_mix l D ad cI cR cS cL m24 g23 ((fWL (rv mem k)).toInt64)) gX5_mixLadder_X5_mix (n := 2) rfl rfl rfl (by decide +kernel) rfl ⟨(Nat.le_of_ble_eq_true rfl), (Nat.le_of_ble_eq_true rfl)⟩ (As := [.long g23, .long ((fWL (rv mem k)).toInt64)]) (rest := []) rfl (Nat.le_of_ble_eq_true rfl) ⟨(Nat.le_of_ble_eq_true rfl), (Nat.le_of_ble_eq_true rfl)⟩ dX5_mixLadder_183 (fun g25 u hg25 => ?_)
    rw [hg25.2]
    exact z_lretM E hr hlocks (m24) rfl ⟨by unfold zLad; rw [zMx_app, zMx_app, zMx_app, ← e1, ← e2, ← e3, hg25.1, hg23.1, hg21.1, hg19.1]; rfl, tm24⟩ (Nat.le_of_ble_eq_true rfl) (Nat.le_of_ble_eq_true rfl) dX5_mixLadder_186
  · skip
    obtain ⟨n, rfl⟩ : ∃ n1, n = n1 + 1 := ⟨n - 1, by have := zklt (k := t) (L := pp) (by omega) (by omega) c80; omega⟩
    have ht : t < pp := by omega
    refine z_lload E dX5_mixLadder_83 1 rfl ?_
    refine z_aload_n E dX5_mixLadder_85 rfl 3 rfl ?_
    refine z_iload_n E dX5_mixLadder_86 rfl 5 rfl ?_
    refine z_iload E dX5_mixLadder_87 0 rfl ?_
    refine z_iconst (v := 0) E dX5_mixLadder_89 (by decide) ?_
    refine z_callViN E hZ (k_person l D ad cI cR cS cL m (c0 := 0) (s0 := 0) hl (nI k) (nI t) 0  (fun E u h => zno (dPer0 htr hk h7 hpp ht) h)) gX5_mixLadder_X5_person (n := 3) rfl rfl rfl (by decide +kernel) rfl ⟨(Nat.le_of_ble_eq_true rfl), (Nat.le_of_ble_eq_true rfl)⟩ (C := RX5) rfl 106 cw_lad (As := [.int (nI k), .int (nI t), .int 0]) (rest := [.long hh0]) rfl (Nat.le_of_ble_eq_true rfl) ⟨(Nat.le_of_ble_eq_true rfl), (Nat.le_of_ble_eq_true rfl)⟩ dX5_mixLadder_90 (fun E u h => zno (dPer0 htr hk h7 hpp ht) h) (fun r u hp => ?_)
    rw [(zyes (dPer0 htr hk h7 hpp ht) hp).1, (zyes (dPer0 htr hk h7 hpp ht) hp).2]
    refine z_i2l (v := (rv mem k (8 + t)).toInt64) E dX5_mixLadder_93 rfl ?_
    refine z_callSl E hZ (k_mix l D ad cI cR cS cL m hh0 ((rv mem k (8 + t)).toInt64)) gX5_mixLadder_X5_mix (n := 2) rfl rfl rfl (by decide +kernel) rfl ⟨(Nat.le_of_ble_eq_true rfl), (Nat.le_of_ble_eq_true rfl)⟩ (As := [.long hh0, .long ((rv mem k (8 + t)).toInt64)]) (rest := []) rfl (Nat.le_of_ble_eq_true rfl) ⟨(Nat.le_of_ble_eq_true rfl), (Nat.le_of_ble_eq_true rfl)⟩ dX5_mixLadder_94 (fun g26 u hg26 => ?_)
    rw [hg26.2]
    refine z_lstore (lv' := [(4, .long g26), (7, .int (nI t)), (6, .int (nI pp)), (0, .ref (ad 106)), (1, .long h), (3, .int (nI k))]) E dX5_mixLadder_97 (by decide) rfl ?_
    refine z_lload E dX5_mixLadder_99 0 rfl ?_
    refine z_aload_n E dX5_mixLadder_101 rfl 3 rfl ?_
    refine z_iload_n E dX5_mixLadder_102 rfl 5 rfl ?_
    refine z_iload E dX5_mixLadder_103 1 rfl ?_
    refine z_iconst (v := 1) E dX5_mixLadder_105 (by decide) ?_
    refine z_callViN E hZ (k_person l D ad cI cR cS cL m (c0 := 0) (s0 := 0) hl (nI k) (nI t) 1  (fun E u h => zno (dPer1 htr hk h7 hpp ht) h)) gX5_mixLadder_X5_person (n := 3) rfl rfl rfl (by decide +kernel) rfl ⟨(Nat.le_of_ble_eq_true rfl), (Nat.le_of_ble_eq_true rfl)⟩ (C := RX5) rfl 106 cw_lad (As := [.int (nI k), .int (nI t), .int 1]) (rest := [.long g26]) rfl (Nat.le_of_ble_eq_true rfl) ⟨(Nat.le_of_ble_eq_true rfl), (Nat.le_of_ble_eq_true rfl)⟩ dX5_mixLadder_106 (fun E u h => zno (dPer1 htr hk h7 hpp ht) h) (fun r u hp => ?_)
    rw [(zyes (dPer1 htr hk h7 hpp ht) hp).1, (zyes (dPer1 htr hk h7 hpp ht) hp).2]
    refine z_i2l (v := (rv mem k (11 + t)).toInt64) E dX5_mixLadder_109 rfl ?_
    refine z_callSl E hZ (k_mix l D ad cI cR cS cL m g26 ((rv mem k (11 + t)).toInt64)) gX5_mixLadder_X5_mix (n := 2) rfl rfl rfl (by decide +kernel) rfl ⟨(Nat.le_of_ble_eq_true rfl), (Nat.le_of_ble_eq_true rfl)⟩ (As := [.long g26, .long ((rv mem k (11 + t)).toInt64)]) (rest := []) rfl (Nat.le_of_ble_eq_true rfl) ⟨(Nat.le_of_ble_eq_true rfl), (Nat.le_of_ble_eq_true rfl)⟩ dX5_mixLadder_110 (fun g27 u hg27 => ?_)
    rw [hg27.2]
    refine z_lstore (lv' := [(4, .long g27), (7, .int (nI t)), (6, .int (nI pp)), (0, .ref (ad 106)), (1, .long h), (3, .int (nI k))]) E dX5_mixLadder_113 (by decide) rfl ?_
    refine z_lload E dX5_mixLadder_115 0 rfl ?_
    refine z_aload_n E dX5_mixLadder_117 rfl 3 rfl ?_
    refine z_iload_n E dX5_mixLadder_118 rfl 5 rfl ?_
    refine z_iload E dX5_mixLadder_119 1 rfl ?_
    refine z_callViN E hZ (k_highest l D ad cI cR cS cL m (c0 := 0) (s0 := 0) hl (nI k) (nI t) (zTrA htr hA) (fun E h => znol (dHigh htr hk h7 hpp ht) h)) gX5_mixLadder_X5_highest (n := 2) rfl rfl rfl (by decide +kernel) rfl ⟨(Nat.le_of_ble_eq_true rfl), (Nat.le_of_ble_eq_true rfl)⟩ (C := RX5) rfl 106 cw_lad (As := [.int (nI k), .int (nI t)]) (rest := [.long g27]) rfl (Nat.le_of_ble_eq_true rfl) ⟨(Nat.le_of_ble_eq_true rfl), (Nat.le_of_ble_eq_true rfl)⟩ dX5_mixLadder_121 (fun E u h => znol (dHigh htr hk h7 hpp ht) h.1) (fun r m28 hp => ?_)
    rw [zyesl (dHigh htr hk h7 hpp ht) hp.1]
    have tm28 : zTr mem m28 := htr.trans hp.2
    refine z_i2l (v := (fHi (rv mem k) t).toInt64) E dX5_mixLadder_124 rfl ?_
    refine z_callSl E hZ (k_mix l D ad cI cR cS cL m28 g27 ((fHi (rv mem k) t).toInt64)) gX5_mixLadder_X5_mix (n := 2) rfl rfl rfl (by decide +kernel) rfl ⟨(Nat.le_of_ble_eq_true rfl), (Nat.le_of_ble_eq_true rfl)⟩ (As := [.long g27, .long ((fHi (rv mem k) t).toInt64)]) (rest := []) rfl (Nat.le_of_ble_eq_true rfl) ⟨(Nat.le_of_ble_eq_true rfl), (Nat.le_of_ble_eq_true rfl)⟩ dX5_mixLadder_125 (fun g29 u hg29 => ?_)
    rw [hg29.2]
    refine z_lstore (lv' := [(4, .long g29), (7, .int (nI t)), (6, .int (nI pp)), (0, .ref (ad 106)), (1, .long h), (3, .int (nI k))]) E dX5_mixLadder_128 (by decide) rfl ?_
    refine z_iinc (v := nI t + 1) (lv' := [(7, .int (nI t + 1)), (4, .long g29), (6, .int (nI pp)), (0, .ref (ad 106)), (1, .long h), (3, .int (nI k))]) E dX5_mixLadder_130 (q := 1) rfl rfl (by decide) rfl ?_
    refine z_goto (tgt := 76) E dX5_mixLadder_133 (by decide) ?_
    refine z_eq (ws' := cw ad cI cR cS m28) (lv' := [(7, .int (nI (t + 1))), (4, .long g29), (6, .int (nI pp)), (0, .ref (ad 106)), (1, .long h), (3, .int (nI k))]) (st' := []) rfl (by rw [← nI_1 t]) rfl ?_
    exact ih n (m28, t + 1, g29) (by omega) ⟨by show t + 1 + n = pp; omega, tm28, by show g29 = zMx g17 (zPers (rv mem k) (t + 1)); rw [zPers_s, zMx_app, ← hh, hg29.1, hg27.1, hg26.1]; rfl⟩
