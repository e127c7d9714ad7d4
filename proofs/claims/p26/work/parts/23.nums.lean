/-! the looks at numbers in range -/
theorem zno {S : zO} {v : Int32} {m u : zM} {E : String} {Q : Prop} (h1 : S = (.inr v, m)) (h2 : S = (.inl E, u)) : Q := by rw [h1] at h2; cases h2
theorem zyes {S : zO} {v r : Int32} {m u : zM} (h1 : S = (.inr v, m)) (h2 : S = (.inr r, u)) : r = v ∧ u = m := by rw [h1] at h2; cases h2; exact ⟨rfl, rfl⟩
theorem znol {S : String ⊕ Int32} {v : Int32} {E : String} {Q : Prop} (h1 : S = .inr v) (h2 : S = .inl E) : Q := by rw [h1] at h2; cases h2
theorem zyesl {S : String ⊕ Int32} {v r : Int32} (h1 : S = .inr v) (h2 : S = .inr r) : r = v := by rw [h1] at h2; cases h2; rfl
theorem zk4 {k : Nat} (hk : k < 4) : ¬ (nI k < 0 ∨ 4 ≤ nI k) := by
  rintro (h | h)
  · exact nI_pos (by omega) h
  · have := (nI_leI (a := 4) (b := k) (by omega) (by omega)).mp h; omega
theorem fBears_of {R : Nat → Int32} {pp t : Nat} (h : R 7 = nI pp) (hpp : pp ≤ 3) (ht : t < pp) : ¬ fBears R (nI t) = 0 := by
  unfold fBears
  rw [if_neg (nI_pos (by omega)), if_neg (show ¬ R 7 ≤ nI t by rw [h]; exact fun h => by have := (nI_leI (by omega) (by omega)).mp h; omega), if_neg (show ¬ (3 : Int32) ≤ nI t from fun h => by have := (nI_leI (a := 3) (b := t) (by omega) (by omega)).mp h; omega)]
  decide
theorem dLad0 {mem m : zM} (htr : zTr mem m) {k : Nat} (hk : k < 4) : sLadder m (nI k) 0 = (.inr ((rv mem k) 0), m) := by
  rw [← htr.rv (j := k) (by omega)]
  unfold sLadder
  rw [nI_clamp (by omega)]
  exact (if_neg (zk4 hk)).trans (if_pos rfl)
theorem dLad1 {mem m : zM} (htr : zTr mem m) {k : Nat} (hk : k < 4) : sLadder m (nI k) 1 = (.inr ((rv mem k) 1), m) := by
  rw [← htr.rv (j := k) (by omega)]
  unfold sLadder
  rw [nI_clamp (by omega)]
  exact (if_neg (zk4 hk)).trans ((if_neg (by decide)).trans (if_pos rfl))
theorem dLad2 {mem m : zM} (htr : zTr mem m) {k : Nat} (hk : k < 4) : sLadder m (nI k) 2 = (.inr ((rv mem k) 2), m) := by
  rw [← htr.rv (j := k) (by omega)]
  unfold sLadder
  rw [nI_clamp (by omega)]
  exact (if_neg (zk4 hk)).trans ((if_neg (by decide)).trans ((if_neg (by decide)).trans (if_pos rfl)))
theorem dLad3 {mem m : zM} (htr : zTr mem m) {k : Nat} (hk : k < 4) : sLadder m (nI k) 3 = (.inr ((rv mem k) 3), m) := by
  rw [← htr.rv (j := k) (by omega)]
  unfold sLadder
  rw [nI_clamp (by omega)]
  exact (if_neg (zk4 hk)).trans ((if_neg (by decide)).trans ((if_neg (by decide)).trans ((if_neg (by decide)).trans (if_pos rfl))))
theorem dLad4 {mem m : zM} (htr : zTr mem m) {k : Nat} (hk : k < 4) : sLadder m (nI k) 4 = (.inr ((rv mem k) 4), m) := by
  rw [← htr.rv (j := k) (by omega)]
  unfold sLadder
  rw [nI_clamp (by omega)]
  exact (if_neg (zk4 hk)).trans ((if_neg (by decide)).trans ((if_neg (by decide)).trans ((if_neg (by decide)).trans ((if_neg (by decide)).trans (if_pos rfl)))))
theorem dLad5 {mem m : zM} (htr : zTr mem m) {k : Nat} (hk : k < 4) : sLadder m (nI k) 5 = (.inr ((rv mem k) 5), m) := by
  rw [← htr.rv (j := k) (by omega)]
  unfold sLadder
  rw [nI_clamp (by omega)]
  exact (if_neg (zk4 hk)).trans ((if_neg (by decide)).trans ((if_neg (by decide)).trans ((if_neg (by decide)).trans ((if_neg (by decide)).trans ((if_neg (by decide)).trans (if_pos rfl))))))
theorem dLad6 {mem m : zM} (htr : zTr mem m) {k : Nat} (hk : k < 4) : sLadder m (nI k) 6 = (.inr ((rv mem k) 7), m) := by
  rw [← htr.rv (j := k) (by omega)]
  unfold sLadder
  rw [nI_clamp (by omega)]
  exact (if_neg (zk4 hk)).trans ((if_neg (by decide)).trans ((if_neg (by decide)).trans ((if_neg (by decide)).trans ((if_neg (by decide)).trans ((if_neg (by decide)).trans ((if_neg (by decide)).trans (if_pos rfl)))))))
theorem dLad7 {mem m : zM} (htr : zTr mem m) {k : Nat} (hk : k < 4) : sLadder m (nI k) 7 = (.inr (fLoad (rv mem k)), m) := by
  rw [← htr.rv (j := k) (by omega)]
  unfold sLadder
  rw [nI_clamp (by omega)]
  exact (if_neg (zk4 hk)).trans ((if_neg (by decide)).trans ((if_neg (by decide)).trans ((if_neg (by decide)).trans ((if_neg (by decide)).trans ((if_neg (by decide)).trans ((if_neg (by decide)).trans ((if_neg (by decide)).trans (if_pos rfl))))))))
theorem dLad8 {mem m : zM} (htr : zTr mem m) {k : Nat} (hk : k < 4) : sLadder m (nI k) 8 = (.inr (fMoment (rv mem k)), m) := by
  rw [← htr.rv (j := k) (by omega)]
  unfold sLadder
  rw [nI_clamp (by omega)]
  exact (if_neg (zk4 hk)).trans ((if_neg (by decide)).trans ((if_neg (by decide)).trans ((if_neg (by decide)).trans ((if_neg (by decide)).trans ((if_neg (by decide)).trans ((if_neg (by decide)).trans ((if_neg (by decide)).trans ((if_neg (by decide)).trans (if_pos rfl)))))))))
theorem dLad9 {mem m : zM} (htr : zTr mem m) {k : Nat} (hk : k < 4) : sLadder m (nI k) 9 = (.inr ((rv mem k) 6), m) := by
  rw [← htr.rv (j := k) (by omega)]
  unfold sLadder
  rw [nI_clamp (by omega)]
  exact (if_neg (zk4 hk)).trans ((if_neg (by decide)).trans ((if_neg (by decide)).trans ((if_neg (by decide)).trans ((if_neg (by decide)).trans ((if_neg (by decide)).trans ((if_neg (by decide)).trans ((if_neg (by decide)).trans ((if_neg (by decide)).trans ((if_neg (by decide)).trans (if_pos rfl))))))))))
theorem dLad10 {mem m : zM} (htr : zTr mem m) {k : Nat} (hk : k < 4) : sLadder m (nI k) 10 = (.inr (fStands (rv mem k)), m) := by
  rw [← htr.rv (j := k) (by omega)]
  unfold sLadder
  rw [nI_clamp (by omega)]
  exact (if_neg (zk4 hk)).trans ((if_neg (by decide)).trans ((if_neg (by decide)).trans ((if_neg (by decide)).trans ((if_neg (by decide)).trans ((if_neg (by decide)).trans ((if_neg (by decide)).trans ((if_neg (by decide)).trans ((if_neg (by decide)).trans ((if_neg (by decide)).trans ((if_neg (by decide)).trans (if_pos rfl)))))))))))
theorem dFor0 {mem m : zM} (htr : zTr mem m) {k : Nat} (hk : k < 4) : sForce m (nI k) 0 = (.inr (if fStands (rv mem k) = 0 then -1 else fLeast (rv mem k) + 1000), m) := by
  rw [← htr.rv (j := k) (by omega)]
  unfold sForce
  rw [nI_clamp (by omega)]
  by_cases hs : fStands (rv m k) = 0
  · exact (if_neg (zk4 hk)).trans ((if_neg (by decide)).trans ((if_neg (by decide)).trans ((if_pos hs).trans (by rw [if_pos hs]))))
  · exact (if_neg (zk4 hk)).trans ((if_neg (by decide)).trans ((if_neg (by decide)).trans ((if_neg hs).trans ((if_pos rfl).trans (by rw [if_neg hs])))))
theorem dFor1 {mem m : zM} (htr : zTr mem m) {k : Nat} (hk : k < 4) : sForce m (nI k) 1 = (.inr (if fStands (rv mem k) = 0 then -1 else fGreat (rv mem k) + 1000), m) := by
  rw [← htr.rv (j := k) (by omega)]
  unfold sForce
  rw [nI_clamp (by omega)]
  by_cases hs : fStands (rv m k) = 0
  · exact (if_neg (zk4 hk)).trans ((if_neg (by decide)).trans ((if_neg (by decide)).trans ((if_pos hs).trans (by rw [if_pos hs]))))
  · exact (if_neg (zk4 hk)).trans ((if_neg (by decide)).trans ((if_neg (by decide)).trans ((if_neg hs).trans ((if_neg (by decide)).trans ((if_pos rfl).trans (by rw [if_neg hs]))))))
theorem dFor2 {mem m : zM} (htr : zTr mem m) {k : Nat} (hk : k < 4) : sForce m (nI k) 2 = (.inr (fForces (rv mem k)), m) := by
  rw [← htr.rv (j := k) (by omega)]
  unfold sForce
  rw [nI_clamp (by omega)]
  exact (if_neg (zk4 hk)).trans ((if_neg (by decide)).trans (if_pos rfl))
theorem dFor3 {mem m : zM} (htr : zTr mem m) {k : Nat} (hk : k < 4) : sForce m (nI k) 3 = (.inr (if fStands (rv mem k) = 0 then -1 else fNearest (rv mem k) + 1000), m) := by
  rw [← htr.rv (j := k) (by omega)]
  unfold sForce
  rw [nI_clamp (by omega)]
  by_cases hs : fStands (rv m k) = 0
  · exact (if_neg (zk4 hk)).trans ((if_neg (by decide)).trans ((if_neg (by decide)).trans ((if_pos hs).trans (by rw [if_pos hs]))))
  · exact (if_neg (zk4 hk)).trans ((if_neg (by decide)).trans ((if_neg (by decide)).trans ((if_neg hs).trans ((if_neg (by decide)).trans ((if_neg (by decide)).trans ((if_pos rfl).trans (by rw [if_neg hs])))))))
theorem dFor4 {mem m : zM} (htr : zTr mem m) {k : Nat} (hk : k < 4) : sForce m (nI k) 4 = (.inr (if fStands (rv mem k) = 0 then -1 else fPush (rv mem k) (fNearest (rv mem k))), m) := by
  rw [← htr.rv (j := k) (by omega)]
  unfold sForce
  rw [nI_clamp (by omega)]
  by_cases hs : fStands (rv m k) = 0
  · exact (if_neg (zk4 hk)).trans ((if_neg (by decide)).trans ((if_neg (by decide)).trans ((if_pos hs).trans (by rw [if_pos hs]))))
  · exact (if_neg (zk4 hk)).trans ((if_neg (by decide)).trans ((if_neg (by decide)).trans ((if_neg hs).trans ((if_neg (by decide)).trans ((if_neg (by decide)).trans ((if_neg (by decide)).trans ((if_pos rfl).trans (by rw [if_neg hs]))))))))
theorem dFor5 {mem m : zM} (htr : zTr mem m) {k : Nat} (hk : k < 4) : sForce m (nI k) 5 = (.inr (if fStands (rv mem k) = 0 then -1 else fLoad (rv mem k) - fNearest (rv mem k)), m) := by
  rw [← htr.rv (j := k) (by omega)]
  unfold sForce
  rw [nI_clamp (by omega)]
  by_cases hs : fStands (rv m k) = 0
  · exact (if_neg (zk4 hk)).trans ((if_neg (by decide)).trans ((if_neg (by decide)).trans ((if_pos hs).trans (by rw [if_pos hs]))))
  · exact (if_neg (zk4 hk)).trans ((if_neg (by decide)).trans ((if_neg (by decide)).trans ((if_neg hs).trans ((if_neg (by decide)).trans ((if_neg (by decide)).trans ((if_neg (by decide)).trans ((if_neg (by decide)).trans (by rw [if_neg hs]))))))))
theorem dPer0 {mem m : zM} (htr : zTr mem m) {k : Nat} (hk : k < 4) {pp t : Nat} (h7 : rv mem k 7 = nI pp) (hpp : pp ≤ 3) (ht : t < pp) : sPerson m (nI k) (nI t) 0 = (.inr (rv mem k (8 + t)), m) := by
  have e := htr.rv (j := k) (by omega)
  rw [← e] at h7
  rw [← e]
  have hb := fBears_of h7 hpp ht
  unfold sPerson
  rw [nI_clamp (n := k) (by omega)]
  exact (if_neg (zk4 hk)).trans ((if_neg hb).trans ((if_pos rfl).trans (by rw [show sWeightOf m k (nI t) = rv m k (8 + t) from (if_neg hb).trans (by rw [nI_clamp (by omega)]; unfold rv; rw [if_neg (by omega), if_pos (by omega), show 8 + t - 8 = t by omega])])))
theorem dPer1 {mem m : zM} (htr : zTr mem m) {k : Nat} (hk : k < 4) {pp t : Nat} (h7 : rv mem k 7 = nI pp) (hpp : pp ≤ 3) (ht : t < pp) : sPerson m (nI k) (nI t) 1 = (.inr (rv mem k (11 + t)), m) := by
  have e := htr.rv (j := k) (by omega)
  rw [← e] at h7
  rw [← e]
  have hb := fBears_of h7 hpp ht
  unfold sPerson
  rw [nI_clamp (n := k) (by omega)]
  exact (if_neg (zk4 hk)).trans ((if_neg hb).trans ((if_neg (by decide)).trans ((if_pos rfl).trans (by rw [show sStepOf m k (nI t) = rv m k (11 + t) from (if_neg hb).trans (by rw [nI_clamp (by omega)]; unfold rv; rw [if_neg (by omega), if_neg (by omega), if_pos (by omega), show 11 + t - 11 = t by omega])]))))
theorem dHigh {mem m : zM} (htr : zTr mem m) {k : Nat} (hk : k < 4) {pp t : Nat} (h7 : rv mem k 7 = nI pp) (hpp : pp ≤ 3) (ht : t < pp) : sHigh m (nI k) (nI t) = .inr (fHi (rv mem k) t) := by
  have e := htr.rv (j := k) (by omega)
  rw [← e] at h7
  rw [← e]
  have hb := fBears_of h7 hpp ht
  unfold sHigh
  rw [nI_clamp (n := k) (by omega), nI_clamp (n := t) (by omega)]
  exact (if_neg (zk4 hk)).trans (if_neg hb)
theorem dNeeded {mem m : zM} (htr : zTr mem m) {k : Nat} (hk : k < 4) : sNeeded m (nI k) = .inr (fNR (rv mem k)) := by
  rw [← htr.rv (j := k) (by omega)]
  unfold sNeeded
  rw [nI_clamp (by omega)]
  exact if_neg (zk4 hk)
theorem dBest {mem m : zM} (htr : zTr mem m) {k : Nat} (hk : k < 4) : sBest m (nI k) = .inr (fBB (rv mem k)) := by
  rw [← htr.rv (j := k) (by omega)]
  unfold sBest
  rw [nI_clamp (by omega)]
  exact if_neg (zk4 hk)
theorem dRisk {mem m : zM} (htr : zTr mem m) {k : Nat} (hk : k < 4) : sRisk m (nI k) = .inr (fRK (rv mem k)) := by
  rw [← htr.rv (j := k) (by omega)]
  unfold sRisk
  rw [nI_clamp (by omega)]
  exact if_neg (zk4 hk)
theorem dWalls {mem m : zM} (htr : zTr mem m) {k : Nat} (hk : k < 4) : sWalls m (nI k) = .inr (fWL (rv mem k)) := by
  rw [← htr.rv (j := k) (by omega)]
  unfold sWalls
  rw [nI_clamp (by omega)]
  exact if_neg (zk4 hk)
theorem zTr3 {mem m : zM} (htr : zTr mem m) (h : ∀ i, i < 4 → ∃ a, a ≤ 3 ∧ mem (3 * i) 7 = nI a) : ∀ i, i < 4 → ∃ a, a ≤ 3 ∧ m (3 * i) 7 = nI a := fun i hi => by rw [htr _ (Or.inl (by omega))]; exact h i hi
theorem zTrA {mem m : zM} (htr : zTr mem m) (h : ∀ i, i < 4 → ∀ t, t < 3 → ∃ a, a ≤ 10 ∧ mem (3 * i + 2) t = nI a) : ∀ i, i < 4 → ∀ t, t < 3 → ∃ a, a ≤ 10 ∧ m (3 * i + 2) t = nI a := fun i hi t ht => by rw [htr _ (Or.inl (by omega))]; exact h i hi t ht
