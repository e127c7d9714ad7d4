/-! two objects alike; the looks at both -/
def zSE (m p : zM) : Prop := (∀ i, i < 4 → rv m i = rv p i) ∧ m 87 1 = p 87 1 ∧ m 87 2 = p 87 2
theorem zSE.rfl' (m : zM) : zSE m m := ⟨fun _ _ => rfl, rfl, rfl⟩
theorem zSE.symm' {m p : zM} (h : zSE m p) : zSE p m := ⟨fun i hi => (h.1 i hi).symm, h.2.1.symm, h.2.2.symm⟩
theorem zSE.trans' {m p u : zM} (h : zSE m p) (h2 : zSE p u) : zSE m u := ⟨fun i hi => (h.1 i hi).trans (h2.1 i hi), h.2.1.trans h2.2.1, h.2.2.trans h2.2.2⟩
theorem rv_fd {m : zM} {i k : Nat} (hk : k < 8) : rv m i k = m (3 * i) k := if_pos hk
theorem rv_8 {m : zM} {i k : Nat} (hk : k < 3) : rv m i (8 + k) = m (3 * i + 1) k := by
  unfold rv
  rw [if_neg (by omega), if_pos (by omega), show 8 + k - 8 = k by omega]
theorem rv_11 {m : zM} {i k : Nat} (hk : k < 3) : rv m i (11 + k) = m (3 * i + 2) k := by
  unfold rv
  rw [if_neg (by omega), if_neg (by omega), if_pos (by omega), show 11 + k - 11 = k by omega]
theorem zSE.f {m p : zM} (h : zSE m p) {i k : Nat} (hi : i < 4) (hk : k < 8) : m (3 * i) k = p (3 * i) k := (rv_fd hk).symm.trans ((congrFun (h.1 i hi) k).trans (rv_fd hk))
theorem zSE.w {m p : zM} (h : zSE m p) {i k : Nat} (hi : i < 4) (hk : k < 3) : m (3 * i + 1) k = p (3 * i + 1) k := (rv_8 hk).symm.trans ((congrFun (h.1 i hi) (8 + k)).trans (rv_8 hk))
theorem zSE.s {m p : zM} (h : zSE m p) {i k : Nat} (hi : i < 4) (hk : k < 3) : m (3 * i + 2) k = p (3 * i + 2) k := (rv_11 hk).symm.trans ((congrFun (h.1 i hi) (11 + k)).trans (rv_11 hk))
theorem zSE.ok {m p : zM} (h : zSE m p) (hk : zOK m) : zOK p := fun i hi => by rw [← h.1 i hi]; exact hk i hi
/-- the trial rig aside -/
theorem zSE.tr {m p u : zM} (h : zSE m p) (ht : zTr m u) : zSE u p := ⟨fun i hi => (ht.rv (by omega)).trans (h.1 i hi), by rw [ht 87 (by omega)]; exact h.2.1, by rw [ht 87 (by omega)]; exact h.2.2⟩
theorem dCnt0 (m : zM) : sCount m 0 = (.inr (fStanding m 0), m) := by
  unfold sCount
  exact if_pos rfl
theorem dCnt1 (m : zM) : sCount m 1 = (.inr (fPeople m 0), m) := by
  unfold sCount
  exact (if_neg (by decide)).trans (if_pos rfl)
theorem dCnt2 (m : zM) : sCount m 2 = (.inr (fFalls m 0), m) := by
  unfold sCount
  exact (if_neg (by decide)).trans ((if_neg (by decide)).trans (if_pos rfl))
theorem dCnt3 (m : zM) : sCount m 3 = (.inr (m 87 1), m) := by
  unfold sCount
  exact (if_neg (by decide)).trans ((if_neg (by decide)).trans ((if_neg (by decide)).trans (if_pos rfl)))
theorem dCnt4 (m : zM) : sCount m 4 = (.inr (m 87 2), m) := by
  unfold sCount
  exact (if_neg (by decide)).trans ((if_neg (by decide)).trans ((if_neg (by decide)).trans ((if_neg (by decide)).trans (if_pos rfl))))
theorem dCnt5 (m : zM) : sCount m 5 = (.inr (m 101 2), m) := by
  unfold sCount
  exact (if_neg (by decide)).trans ((if_neg (by decide)).trans ((if_neg (by decide)).trans ((if_neg (by decide)).trans ((if_neg (by decide)).trans (if_pos rfl)))))
theorem zSE.stand {m p : zM} (h : zSE m p) : fStanding m 0 = fStanding p 0 := by
  unfold fStanding
  rw [h.1 (4 * 0 + 0) (by omega), h.1 (4 * 0 + 1) (by omega), h.1 (4 * 0 + 2) (by omega), h.1 (4 * 0 + 3) (by omega)]
theorem zSE.people {m p : zM} (h : zSE m p) : fPeople m 0 = fPeople p 0 := by
  unfold fPeople
  rw [h.f (i := 4 * 0 + 0) (by omega) (by omega), h.f (i := 4 * 0 + 1) (by omega) (by omega), h.f (i := 4 * 0 + 2) (by omega) (by omega), h.f (i := 4 * 0 + 3) (by omega) (by omega)]
theorem zSE.falls {m p : zM} (h : zSE m p) : fFalls m 0 = fFalls p 0 := by
  unfold fFalls
  rw [h.f (i := 4 * 0 + 0) (by omega) (by omega), h.f (i := 4 * 0 + 1) (by omega) (by omega), h.f (i := 4 * 0 + 2) (by omega) (by omega), h.f (i := 4 * 0 + 3) (by omega) (by omega)]
theorem cntE {m p : zM} (h : zSE m p) {w : Nat} (hw : w < 5) : ∃ r, sCount m (nI w) = (.inr r, m) ∧ sCount p (nI w) = (.inr r, p) := by
  rcases (show w = 0 ∨ w = 1 ∨ w = 2 ∨ w = 3 ∨ w = 4 by omega) with rfl | rfl | rfl | rfl | rfl
  · exact ⟨_, dCnt0 m, by rw [h.stand]; exact dCnt0 p⟩
  · exact ⟨_, dCnt1 m, by rw [h.people]; exact dCnt1 p⟩
  · exact ⟨_, dCnt2 m, by rw [h.falls]; exact dCnt2 p⟩
  · exact ⟨_, dCnt3 m, by rw [h.2.1]; exact dCnt3 p⟩
  · exact ⟨_, dCnt4 m, by rw [h.2.2]; exact dCnt4 p⟩
theorem ladE {m p : zM} (h : zSE m p) {k : Nat} (hk : k < 4) {w : Nat} (hw : w < 10) : ∃ r, sLadder m (nI k) (nI w) = (.inr r, m) ∧ sLadder p (nI k) (nI w) = (.inr r, p) := by
  rcases (show w = 0 ∨ w = 1 ∨ w = 2 ∨ w = 3 ∨ w = 4 ∨ w = 5 ∨ w = 6 ∨ w = 7 ∨ w = 8 ∨ w = 9 by omega) with rfl | rfl | rfl | rfl | rfl | rfl | rfl | rfl | rfl | rfl
  · exact ⟨_, dLad0 zTr.rfl' hk, by rw [h.1 k hk]; exact dLad0 zTr.rfl' hk⟩
  · exact ⟨_, dLad1 zTr.rfl' hk, by rw [h.1 k hk]; exact dLad1 zTr.rfl' hk⟩
  · exact ⟨_, dLad2 zTr.rfl' hk, by rw [h.1 k hk]; exact dLad2 zTr.rfl' hk⟩
  · exact ⟨_, dLad3 zTr.rfl' hk, by rw [h.1 k hk]; exact dLad3 zTr.rfl' hk⟩
  · exact ⟨_, dLad4 zTr.rfl' hk, by rw [h.1 k hk]; exact dLad4 zTr.rfl' hk⟩
  · exact ⟨_, dLad5 zTr.rfl' hk, by rw [h.1 k hk]; exact dLad5 zTr.rfl' hk⟩
  · exact ⟨_, dLad6 zTr.rfl' hk, by rw [h.1 k hk]; exact dLad6 zTr.rfl' hk⟩
  · exact ⟨_, dLad7 zTr.rfl' hk, by rw [h.1 k hk]; exact dLad7 zTr.rfl' hk⟩
  · exact ⟨_, dLad8 zTr.rfl' hk, by rw [h.1 k hk]; exact dLad8 zTr.rfl' hk⟩
  · exact ⟨_, dLad9 zTr.rfl' hk, by rw [h.1 k hk]; exact dLad9 zTr.rfl' hk⟩
theorem perE0 {m p : zM} (h : zSE m p) {k : Nat} (hk : k < 4) {pp t : Nat} (h7 : rv m k 7 = nI pp) (hpp : pp ≤ 3) (ht : t < pp) : sPerson p (nI k) (nI t) 0 = (.inr (rv m k (8 + t)), p) := by
  rw [h.1 k hk] at h7
  rw [h.1 k hk]
  exact dPer0 zTr.rfl' hk h7 hpp ht
theorem perE1 {m p : zM} (h : zSE m p) {k : Nat} (hk : k < 4) {pp t : Nat} (h7 : rv m k 7 = nI pp) (hpp : pp ≤ 3) (ht : t < pp) : sPerson p (nI k) (nI t) 1 = (.inr (rv m k (11 + t)), p) := by
  rw [h.1 k hk] at h7
  rw [h.1 k hk]
  exact dPer1 zTr.rfl' hk h7 hpp ht
theorem zXi.frR {l : Launch} {y : MethodName} {wl : List Cond} {rm : Room} {D : va_G} {tys : List (ClassId × FieldType)} {av : List Value} {wc : va_W} {mc ms : Nat} {S SX : Type} {out : S → va_W} {outx : SX → va_W} {px : String → SX → Prop} {post : Int32 → S → Prop} (h : zXi l y wl rm D tys av wc post out px outx mc ms) (w1 : va_W) : zXi l y wl rm D tys av (w1 ++ wc) post (fun u => w1 ++ out u) px (fun u => w1 ++ outx u) mc ms := by
  have k := h.fr w1 []
  simp only [List.append_nil] at k
  exact k
