/-! an act on two objects alike: refused by both, or done alike -/
def zTwo (B : Nat) (m p : zM) (q z q' z' : Nat) (S T : zO) : Prop := (∃ E, S = (.inl E, m) ∧ T = (.inl E, p)) ∨ ∃ (r : Int32) (m' p' : zM), S = (.inr r, m') ∧ T = (.inr r, p') ∧ zSE m' p' ∧ zIN (B + 3) m' ∧ zKp (sSave m q z) m' ∧ zKp (sSave p q' z') p'
def zPre (B j : Nat) (m0 p0 m p : zM) : Prop := zSE m p ∧ zOK m ∧ zSo j m ∧ zFl B m ∧ zKp m0 m ∧ zKp p0 p
theorem zPre.start {B q z q' z' : Nat} {m p : zM} (hSE : zSE m p) (hin : zIN B m) (hq : q < 6) (hq' : q' < 6) (j : Nat) : zPre B j (sSave m q z) (sSave p q' z') (sSave m q z) (sSave p q' z') := by
  have e := sSv_SE (m := m) (z := z) hq
  have i := zIN_SE e.symm' hin
  exact ⟨(e.trans' hSE).trans' (sSv_SE hq').symm', i.1, fun k hk _ => i.2.1 k hk, i.2.2, zKp.rfl' _, zKp.rfl' _⟩
theorem zPre.fld {B j n : Nat} {m0 p0 m p : zM} {v : Int32} (h : zPre B j m0 p0 m p) (hj : j < 4) (hn : n < 6) (hv : rFd (upd (rv m j) n v)) : zPre B j m0 p0 (mset m (3 * j) n v) (mset p (3 * j) n v) :=
  ⟨zSE_fld hj (by omega) h.1 v, zOK_fld h.2.1 hj hn hv, zSo_only (zOnly_set (Or.inl rfl) _ _) h.2.2.1, zFl_only (zOnly_set (Or.inl rfl) _ _) (by rw [rv_fld (by omega), pk_un (by omega)]) h.2.2.2.1 hj, h.2.2.2.2.1.trans' (zKp_only hj (zOnly_set (Or.inl rfl) _ _)), h.2.2.2.2.2.trans' (zKp_only hj (zOnly_set (Or.inl rfl) _ _))⟩
theorem zPre.add {B j n w : Nat} {m0 p0 m p : zM} (h : zPre B j m0 p0 m p) (hj : j < 4) (hp : rPp (rv m j) n) (hn : n < 3) (h1 : 20 ≤ w) (h2 : w ≤ 150) : zPre B j m0 p0 (sAdd m j (nI w)) (sAdd p j (nI w)) :=
  ⟨zSE_add hj h.1 hp.2.1 hn _, zOK_add h.2.1 hj hp hn h1 h2, zSo_only (zOnly_add _ _ _) h.2.2.1, zFl_only (zOnly_add _ _ _) (by
    rw [rv_add (mem := m) (p := n) hp.2.1 hn]
    unfold addR
    rw [pk_un (by decide), pk_un (by omega), pk_un (by omega)]) h.2.2.2.1 hj, h.2.2.2.2.1.trans' (zKp_only hj (zOnly_add _ _ _)), h.2.2.2.2.2.trans' (zKp_only hj (zOnly_add _ _ _))⟩
theorem zPre.rm {B j n t : Nat} {m0 p0 m p : zM} (h : zPre B j m0 p0 m p) (hj : j < 4) (hp : rPp (rv m j) n) (ht : t < n) : zPre B j m0 p0 (sRemove m j (nI t)) (sRemove p j (nI t)) := by
  have hb := fBears_of hp.2.1 hp.1 ht
  exact ⟨zSE_rm hj h.1 hb, zOK_rm h.2.1 hj hp ht, zSo_only (zOnly_remove _ _ _) h.2.2.1, zFl_only (zOnly_remove _ _ _) (by
    rw [rv_remove hb]
    unfold rmR
    rw [if_neg (by decide), if_pos (by decide)]) h.2.2.2.1 hj, h.2.2.2.2.1.trans' (zKp_only hj (zOnly_remove _ _ _)), h.2.2.2.2.2.trans' (zKp_only hj (zOnly_remove _ _ _))⟩
theorem zPre.fn {B j : Nat} {m0 p0 m p : zM} (h : zPre B j m0 p0 m p) (hj : j < 4) : zSE (sFN m 0 j) (sFN p 0 j) ∧ zIN (B + 3) (sFN m 0 j) ∧ zKp m0 (sFN m 0 j) ∧ zKp p0 (sFN p 0 j) :=
  ⟨zSE_FN hj h.1, zIN_FN hj h.2.1 h.2.2.1 h.2.2.2.1, h.2.2.2.2.1.trans' (zKp_FN hj m), h.2.2.2.2.2.trans' (zKp_FN hj p)⟩
/-- a number in range, as a natural one -/
theorem znat {v a b : Int32} {A C : Nat} (ha : a.toInt = A) (hb : b.toInt = C) (hC : C < 2147483648) (h : ¬ (v < a ∨ b < v)) : ∃ w : Nat, A ≤ w ∧ w ≤ C ∧ v = nI w := by
  rw [zltI rfl ha, zltI hb rfl] at h
  exact ⟨v.toInt.toNat, by omega, by omega, Int32.toInt_inj.mp (by rw [zL (by omega)]; omega)⟩
theorem fBears_lt {R : Nat → Int32} {n : Nat} {b : Int32} (h7 : R 7 = nI n) (hn : n ≤ 3) (hb : ¬ fBears R b = 0) : ∃ t, t < n ∧ b = nI t := by
  obtain ⟨t, ht, rfl⟩ := vp_in_of (fBears_in hb) (by decide)
  refine ⟨t, Nat.lt_of_not_le (fun h => hb ?_), rfl⟩
  unfold fBears
  rw [if_neg (nI_pos (by omega)), if_pos (by rw [h7]; exact (nI_leI (by omega) (by omega)).mpr h)]
section ZTW
variable {B q z q' z' : Nat} {m p : zM}
theorem two_put (hSE : zSE m p) (hin : zIN B m) (hq : q < 6) (hq' : q' < 6) (x b h g : Int32) : zTwo B m p q z q' z' (sPut m q z x b h g) (sPut p q' z' x b h g) := by
  unfold sPut
  by_cases c0 : x < 0 ∨ 4 ≤ x
  · exact Or.inl ⟨_, if_pos c0, if_pos c0⟩
  rw [if_neg c0, if_neg c0]
  obtain ⟨j, hj, rfl⟩ := zx4 c0
  rw [nI_clamp (n := j) (by omega)]
  by_cases c1 : b < 10 ∨ 100 < b
  · exact Or.inl ⟨_, if_pos c1, if_pos c1⟩
  rw [if_neg c1, if_neg c1]
  by_cases c2 : h < 50 ∨ 300 < h
  · exact Or.inl ⟨_, if_pos c2, if_pos c2⟩
  rw [if_neg c2, if_neg c2]
  by_cases c3 : g < 1 ∨ 100 < g
  · exact Or.inl ⟨_, if_pos c3, if_pos c3⟩
  rw [if_neg c3, if_neg c3]
  have P0 := zPre.start (z := z) (z' := z') hSE hin hq hq' j
  have P1 := P0.fld hj (show 0 < 6 by omega) ((rFd_in (P0.2.1 j hj).1).1 c1)
  have P2 := P1.fld hj (show 1 < 6 by omega) ((rFd_in (P1.2.1 j hj).1).2.1 c2)
  have P3 := P2.fld hj (show 2 < 6 by omega) ((rFd_in (P2.2.1 j hj).1).2.2.1 c3)
  have F := P3.fn hj
  refine Or.inr ⟨_, _, _, rfl, ?_, F.1, F.2.1, F.2.2.1, F.2.2.2⟩
  rw [P3.1.1 j hj]
theorem two_kinds (hSE : zSE m p) (hin : zIN B m) (hq : q < 6) (hq' : q' < 6) (x b h : Int32) : zTwo B m p q z q' z' (sKinds m q z x b h) (sKinds p q' z' x b h) := by
  unfold sKinds
  by_cases c0 : x < 0 ∨ 4 ≤ x
  · exact Or.inl ⟨_, if_pos c0, if_pos c0⟩
  rw [if_neg c0, if_neg c0]
  obtain ⟨j, hj, rfl⟩ := zx4 c0
  rw [nI_clamp (n := j) (by omega)]
  by_cases c1 : b < 0 ∨ 3 < b
  · exact Or.inl ⟨_, if_pos c1, if_pos c1⟩
  rw [if_neg c1, if_neg c1]
  by_cases c2 : h < 0 ∨ 3 < h
  · exact Or.inl ⟨_, if_pos c2, if_pos c2⟩
  rw [if_neg c2, if_neg c2]
  have P0 := zPre.start (z := z) (z' := z') hSE hin hq hq' j
  have P1 := P0.fld hj (show 3 < 6 by omega) ((rFd_in (P0.2.1 j hj).1).2.2.2.1 c1).1
  have P2 := P1.fld hj (show 4 < 6 by omega) ((rFd_in (P1.2.1 j hj).1).2.2.2.1 c2).2
  have F := P2.fn hj
  refine Or.inr ⟨_, _, _, rfl, ?_, F.1, F.2.1, F.2.2.1, F.2.2.2⟩
  rw [P2.1.1 j hj]
theorem two_rope (hSE : zSE m p) (hin : zIN B m) (hq : q < 6) (hq' : q' < 6) (x b : Int32) : zTwo B m p q z q' z' (sRope m q z x b) (sRope p q' z' x b) := by
  unfold sRope
  by_cases c0 : x < 0 ∨ 4 ≤ x
  · exact Or.inl ⟨_, if_pos c0, if_pos c0⟩
  rw [if_neg c0, if_neg c0]
  obtain ⟨j, hj, rfl⟩ := zx4 c0
  rw [nI_clamp (n := j) (by omega)]
  by_cases c1 : b < 0 ∨ 200 < b
  · exact Or.inl ⟨_, if_pos c1, if_pos c1⟩
  rw [if_neg c1, if_neg c1]
  have P0 := zPre.start (z := z) (z' := z') hSE hin hq hq' j
  have P1 := P0.fld hj (show 5 < 6 by omega) ((rFd_in (P0.2.1 j hj).1).2.2.2.2 c1)
  have F := P1.fn hj
  refine Or.inr ⟨_, _, _, rfl, ?_, F.1, F.2.1, F.2.2.1, F.2.2.2⟩
  rw [P1.1.1 j hj]
theorem two_on (hSE : zSE m p) (hin : zIN B m) (hq : q < 6) (hq' : q' < 6) (x b : Int32) : zTwo B m p q z q' z' (sOn m q z x b) (sOn p q' z' x b) := by
  unfold sOn
  by_cases c0 : x < 0 ∨ 4 ≤ x
  · exact Or.inl ⟨_, if_pos c0, if_pos c0⟩
  rw [if_neg c0, if_neg c0]
  obtain ⟨j, hj, rfl⟩ := zx4 c0
  rw [nI_clamp (n := j) (by omega)]
  by_cases c1 : b < 20 ∨ 150 < b
  · exact Or.inl ⟨_, if_pos c1, if_pos c1⟩
  rw [if_neg c1, if_neg c1, ← hSE.1 j hj]
  by_cases c2 : fFull (rv m j) = 0
  · rw [if_pos c2, if_pos c2]
    obtain ⟨w, w1, w2, rfl⟩ := znat (A := 20) (C := 150) (by decide) (by decide) (by omega) c1
    have P0 := zPre.start (z := z) (z' := z') hSE hin hq hq' j
    obtain ⟨-, n, hn⟩ := hin.1 j hj
    have n3 := fFull_lt hn.2.1 hn.1 c2
    have hn' : rPp (rv (sSave m q z) j) n := by rw [sSv_rv hq hj]; exact hn
    have P1 := P0.add hj hn' n3 w1 w2
    have F := P1.fn hj
    refine Or.inr ⟨_, _, _, rfl, ?_, F.1, F.2.1, F.2.2.1, F.2.2.2⟩
    rw [F.1.f hj (show 7 < 8 by decide)]
  · exact Or.inl ⟨_, if_neg c2, if_neg c2⟩
theorem two_off (hSE : zSE m p) (hin : zIN B m) (hq : q < 6) (hq' : q' < 6) (x b : Int32) : zTwo B m p q z q' z' (sOff m q z x b) (sOff p q' z' x b) := by
  unfold sOff
  by_cases c0 : x < 0 ∨ 4 ≤ x
  · exact Or.inl ⟨_, if_pos c0, if_pos c0⟩
  rw [if_neg c0, if_neg c0]
  obtain ⟨j, hj, rfl⟩ := zx4 c0
  rw [nI_clamp (n := j) (by omega), ← hSE.1 j hj]
  by_cases c1 : fBears (rv m j) b = 0
  · exact Or.inl ⟨_, if_pos c1, if_pos c1⟩
  rw [if_neg c1, if_neg c1]
  have P0 := zPre.start (z := z) (z' := z') hSE hin hq hq' j
  obtain ⟨-, n, hn⟩ := hin.1 j hj
  obtain ⟨t, ht, rfl⟩ := fBears_lt hn.2.1 hn.1 c1
  have hn' : rPp (rv (sSave m q z) j) n := by rw [sSv_rv hq hj]; exact hn
  have P1 := P0.rm hj hn' ht
  have F := P1.fn hj
  refine Or.inr ⟨_, _, _, rfl, ?_, F.1, F.2.1, F.2.2.1, F.2.2.2⟩
  rw [F.1.f hj (show 7 < 8 by decide)]
theorem two_climb (hSE : zSE m p) (hin : zIN B m) (hq : q < 6) (hq' : q' < 6) (x b g : Int32) : zTwo B m p q z q' z' (sClimb m q z x b g) (sClimb p q' z' x b g) := by
  unfold sClimb
  by_cases c0 : x < 0 ∨ 4 ≤ x
  · exact Or.inl ⟨_, if_pos c0, if_pos c0⟩
  rw [if_neg c0, if_neg c0]
  obtain ⟨j, hj, rfl⟩ := zx4 c0
  rw [nI_clamp (n := j) (by omega), ← hSE.1 j hj]
  by_cases c1 : fBears (rv m j) b = 0
  · exact Or.inl ⟨_, if_pos c1, if_pos c1⟩
  rw [if_neg c1, if_neg c1]
  by_cases c2 : g < 0 ∨ 10 < g
  · exact Or.inl ⟨_, if_pos c2, if_pos c2⟩
  rw [if_neg c2, if_neg c2]
  have P0 := zPre.start (z := z) (z' := z') hSE hin hq hq' j
  obtain ⟨-, n, hn⟩ := hin.1 j hj
  have n3 := hn.1
  obtain ⟨t, ht, rfl⟩ := fBears_lt hn.2.1 hn.1 c1
  obtain ⟨s, -, s2, rfl⟩ := znat (A := 0) (C := 10) (by decide) (by decide) (by omega) c2
  have hn' : rPp (rv (sSave m q z) j) n := by rw [sSv_rv hq hj]; exact hn
  obtain ⟨w, a, -, -, ha, -, ea⟩ := (hn.2.2 t (by omega)).1 ht
  have e1 : m (3 * j + 2) t = nI a := (rv_11 (by omega)).symm.trans ea
  have e2 : p (3 * j + 2) t = nI a := (hSE.s hj (by omega)).symm.trans e1
  have e3 : sSave m q z (3 * j + 2) t = nI a := ((sSv_SE hq).s hj (by omega)).trans e1
  rw [nI_clamp (n := t) (by omega), nI_clamp (n := s) (by omega), e1, e2, nI_clamp (n := a) (by omega)]
  have K := zSE_walk (way := zway a s) (st := nI s) hj (show t < 3 by omega) (zdist a s) _ _ P0.1
  have S := zSt_walk (way := zway a s) (st := nI s) hj (show t < 3 by omega) (show 0 < n by omega) n3 (zdist a s) _ hn'.2.1 P0.2.2.1 P0.2.2.2.1 (fun _ => zSt_SE (sSv_SE hq).symm' hin.2.1)
  have O := zOK_walk P0.2.1 hj hn' ht ha s2 e3
  refine Or.inr ⟨_, _, _, rfl, ?_, K.1, ⟨O, S⟩, zKp_walk hj _, zKp_walk hj _⟩
  unfold sWalk
  rw [K.2]
theorem two_ch (hSE : zSE m p) (hin : zIN B m) (hq : q < 6) (hq' : q' < 6) (t : Int32 × Int32 × Int32 × Int32) : zTwo B m p q z q' z' (sCh t m q z) (sCh t p q' z') := by
  unfold sCh
  by_cases c0 : t.1 = 0
  · rw [if_pos c0, if_pos c0]; exact two_put hSE hin hq hq' _ _ _ _
  rw [if_neg c0, if_neg c0]
  by_cases c1 : t.1 = 1
  · rw [if_pos c1, if_pos c1]; exact two_kinds hSE hin hq hq' _ _ _
  rw [if_neg c1, if_neg c1]
  by_cases c2 : t.1 = 2
  · rw [if_pos c2, if_pos c2]; exact two_rope hSE hin hq hq' _ _
  rw [if_neg c2, if_neg c2]
  by_cases c3 : t.1 = 3
  · rw [if_pos c3, if_pos c3]; exact two_on hSE hin hq hq' _ _
  rw [if_neg c3, if_neg c3]
  by_cases c4 : t.1 = 4
  · rw [if_pos c4, if_pos c4]; exact two_off hSE hin hq hq' _ _
  rw [if_neg c4, if_neg c4]
  exact two_climb hSE hin hq hq' _ _ _
end ZTW
