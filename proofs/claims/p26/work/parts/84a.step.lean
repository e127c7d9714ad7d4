/-! a change, on two objects alike -/
theorem zx4 {x : Int32} (h : ¬ (x < 0 ∨ 4 ≤ x)) : ∃ k, k < 4 ∧ x = nI k := by
  rcases pk_ix x (n := 4) (by decide) with a | a | ⟨j, hj, e⟩
  · exact absurd (Or.inl a) h
  · exact absurd (Or.inr a) h
  · exact ⟨j, hj, e⟩
theorem rFd_in {R : Nat → Int32} {v : Int32} (h : rFd R) : (¬ (v < 10 ∨ 100 < v) → rFd (upd R 0 v)) ∧ (¬ (v < 50 ∨ 300 < v) → rFd (upd R 1 v)) ∧ (¬ (v < 1 ∨ 100 < v) → rFd (upd R 2 v)) ∧ (¬ (v < 0 ∨ 3 < v) → rFd (upd R 3 v) ∧ rFd (upd R 4 v)) ∧ (¬ (v < 0 ∨ 200 < v) → rFd (upd R 5 v)) := by
  obtain ⟨h0, h1, h2, h3, h4, h5⟩ := h
  have key : ∀ {a b : Int32} {A C : Int}, a.toInt = A → b.toInt = C → ¬ (v < a ∨ b < v) → A ≤ v.toInt ∧ v.toInt ≤ C := fun ha hb hv => by
    rw [zltI rfl ha, zltI hb rfl] at hv
    omega
  refine ⟨fun hv => ?_, fun hv => ?_, fun hv => ?_, fun hv => ⟨?_, ?_⟩, fun hv => ?_⟩
  · have := key (A := 10) (C := 100) (by decide) (by decide) hv
    exact ⟨by rw [pk_us]; exact this, by rw [pk_un (by decide)]; exact h1, by rw [pk_un (by decide)]; exact h2, by rw [pk_un (by decide)]; exact h3, by rw [pk_un (by decide)]; exact h4, by rw [pk_un (by decide)]; exact h5⟩
  · have := key (A := 50) (C := 300) (by decide) (by decide) hv
    exact ⟨by rw [pk_un (by decide)]; exact h0, by rw [pk_us]; exact this, by rw [pk_un (by decide)]; exact h2, by rw [pk_un (by decide)]; exact h3, by rw [pk_un (by decide)]; exact h4, by rw [pk_un (by decide)]; exact h5⟩
  · have := key (A := 1) (C := 100) (by decide) (by decide) hv
    exact ⟨by rw [pk_un (by decide)]; exact h0, by rw [pk_un (by decide)]; exact h1, by rw [pk_us]; exact this, by rw [pk_un (by decide)]; exact h3, by rw [pk_un (by decide)]; exact h4, by rw [pk_un (by decide)]; exact h5⟩
  · have := key (A := 0) (C := 3) (by decide) (by decide) hv
    exact ⟨by rw [pk_un (by decide)]; exact h0, by rw [pk_un (by decide)]; exact h1, by rw [pk_un (by decide)]; exact h2, by rw [pk_us]; exact this, by rw [pk_un (by decide)]; exact h4, by rw [pk_un (by decide)]; exact h5⟩
  · have := key (A := 0) (C := 3) (by decide) (by decide) hv
    exact ⟨by rw [pk_un (by decide)]; exact h0, by rw [pk_un (by decide)]; exact h1, by rw [pk_un (by decide)]; exact h2, by rw [pk_un (by decide)]; exact h3, by rw [pk_us]; exact this, by rw [pk_un (by decide)]; exact h5⟩
  · have := key (A := 0) (C := 200) (by decide) (by decide) hv
    exact ⟨by rw [pk_un (by decide)]; exact h0, by rw [pk_un (by decide)]; exact h1, by rw [pk_un (by decide)]; exact h2, by rw [pk_un (by decide)]; exact h3, by rw [pk_un (by decide)]; exact h4, by rw [pk_us]; exact this⟩
theorem sSiteCopy_rv {c : zM} {t t2 k : Nat} (ht : t < 7) (ht2 : t2 < 7) (hne : t ≠ t2) (hk : k < 4) : rv (sSiteCopy c t t2) (4 * t + k) = rv c (4 * t2 + k) := by
  unfold sSiteCopy sCopy4
  rw [rv_ne (by omega) (by omega) (by omega), rv_ne (by omega) (by omega) (by omega)]
  rcases (show k = 0 ∨ k = 1 ∨ k = 2 ∨ k = 3 by omega) with rfl | rfl | rfl | rfl
  · rw [rv_copy_ne (by omega), rv_copy_ne (by omega), rv_copy_ne (by omega), rv_copy]
  · rw [rv_copy_ne (by omega), rv_copy_ne (by omega), rv_copy, rv_copy_ne (by omega)]
  · rw [rv_copy_ne (by omega), rv_copy, rv_copy_ne (by omega), rv_copy_ne (by omega)]
  · rw [rv_copy, rv_copy_ne (by omega), rv_copy_ne (by omega), rv_copy_ne (by omega)]
theorem sSiteCopy_ne {c : zM} {t t2 i : Nat} (h : i < 12 * t ∨ 12 * t + 12 ≤ i) (h87 : i ≠ 87 + t) : sSiteCopy c t t2 i = c i := by
  unfold sSiteCopy sCopy4
  rw [mset_ne _ _ _ h87, mset_ne _ _ _ h87, sCopy_ne (by omega) (by omega) (by omega), sCopy_ne (by omega) (by omega) (by omega), sCopy_ne (by omega) (by omega) (by omega), sCopy_ne (by omega) (by omega) (by omega)]
theorem sSiteCopy_87 {c : zM} {t t2 : Nat} (ht : t < 7) (ht2 : t2 < 7) : sSiteCopy c t t2 (87 + t) 1 = c (87 + t2) 1 ∧ sSiteCopy c t t2 (87 + t) 2 = c (87 + t2) 2 := by
  have e : sCopy4 c t t2 (87 + t2) = c (87 + t2) := by
    unfold sCopy4
    rw [sCopy_ne (by omega) (by omega) (by omega), sCopy_ne (by omega) (by omega) (by omega), sCopy_ne (by omega) (by omega) (by omega), sCopy_ne (by omega) (by omega) (by omega)]
  unfold sSiteCopy
  rw [e]
  exact ⟨by rw [mset_ne2 _ _ (by decide), mset_at], mset_at _ _ _ _⟩
theorem sFN_ne {mem : zM} {j i : Nat} (h87 : i ≠ 87) (h : i ≠ 3 * j) (h1 : i ≠ 3 * j + 1) (h2 : i ≠ 3 * j + 2) : sFN mem 0 j i = mem i := by
  unfold sFN
  split
  · rfl
  · split
    · exact sFall_ne h87 h h1 h2
    · rfl
theorem wkM_ne {m : zM} {j q i : Nat} {way : Int32} (h87 : i ≠ 87) (h2 : i ≠ 3 * j + 2) : wkM 0 j q way m i = m i := by
  unfold wkM
  rw [mset_ne _ _ _ (by omega), mset_ne _ _ _ h2]
theorem wkGo_ne {j q i : Nat} {way st : Int32} (h87 : i ≠ 87) (h : i ≠ 3 * j) (h1 : i ≠ 3 * j + 1) (h2 : i ≠ 3 * j + 2) : ∀ (d : Nat) (m : zM), (wkGo 0 j q way st d m).2 i = m i
  | 0, m => by rw [wkGo]
  | d + 1, m => by
    rw [wkGo_succ]
    split
    · show sFall _ 0 j i = _
      rw [sFall_ne h87 h h1 h2, wkM_ne h87 h2]
    · rw [wkGo_ne h87 h h1 h2 d, wkM_ne h87 h2]
theorem fFull_lt {R : Nat → Int32} {p : Nat} (h : R 7 = nI p) (hp : p ≤ 3) (h0 : fFull R = 0) : p < 3 := by
  unfold fFull at h0
  rw [h] at h0
  by_cases q : nI p < 3
  · exact (nI_ltI (a := p) (b := 3) (by omega) (by omega)).mp q
  · rw [if_neg q] at h0
    exact absurd h0 (by decide)
/-- all but the site is as it was -/
def zKp (m u : zM) : Prop := ∀ i, 12 ≤ i → i ≠ 87 → u i = m i
theorem zKp.rfl' (m : zM) : zKp m m := fun _ _ _ => rfl
theorem zKp.trans' {a b d : zM} (h1 : zKp a b) (h2 : zKp b d) : zKp a d := fun i x y => (h2 i x y).trans (h1 i x y)
theorem zKp_only {j : Nat} (hj : j < 4) {m u : zM} (h : zOnly j m u) : zKp m u := fun i x _ => h i (by omega) (by omega) (by omega)
theorem zKp_FN {j : Nat} (hj : j < 4) (m : zM) : zKp m (sFN m 0 j) := fun i x y => sFN_ne y (by omega) (by omega) (by omega)
theorem zKp_walk {j q d : Nat} {way st : Int32} (hj : j < 4) (m : zM) : zKp m (wkGo 0 j q way st d m).2 := fun i x y => wkGo_ne y (by omega) (by omega) (by omega) d m
/-! alike stays alike -/
theorem zSE_only {m p m' p' : zM} {j : Nat} (hj : j < 4) (h : zSE m p) (h1 : zOnly j m m') (h2 : zOnly j p p') (hr : rv m' j = rv p' j) : zSE m' p' := by
  refine ⟨fun i hi => ?_, ?_, ?_⟩
  · by_cases e : i = j
    · subst e; exact hr
    · rw [h1.rv e, h2.rv e, h.1 i hi]
  · rw [h1 87 (by omega) (by omega) (by omega), h2 87 (by omega) (by omega) (by omega)]; exact h.2.1
  · rw [h1 87 (by omega) (by omega) (by omega), h2 87 (by omega) (by omega) (by omega)]; exact h.2.2
theorem zSE_fld {m p : zM} {j n : Nat} (hj : j < 4) (hn : n < 8) (h : zSE m p) (v : Int32) : zSE (mset m (3 * j) n v) (mset p (3 * j) n v) :=
  zSE_only hj h (zOnly_set (Or.inl rfl) _ _) (zOnly_set (Or.inl rfl) _ _) (by rw [rv_fld hn, rv_fld hn, h.1 j hj])
theorem zSE_add {m p : zM} {j n : Nat} (hj : j < 4) (h : zSE m p) (h7 : rv m j 7 = nI n) (hn : n < 3) (v : Int32) : zSE (sAdd m j v) (sAdd p j v) :=
  zSE_only hj h (zOnly_add _ _ _) (zOnly_add _ _ _) (by
    rw [rv_add (mem := m) (p := n) h7 hn, rv_add (mem := p) (p := n) (by rw [h.1 j hj] at h7; exact h7) hn, h.1 j hj])
theorem zSE_rm {m p : zM} {j : Nat} {q : Int32} (hj : j < 4) (h : zSE m p) (hb : ¬ fBears (rv m j) q = 0) : zSE (sRemove m j q) (sRemove p j q) :=
  zSE_only hj h (zOnly_remove _ _ _) (zOnly_remove _ _ _) (by
    rw [rv_remove hb, rv_remove (by rw [← h.1 j hj]; exact hb), h.1 j hj])
theorem rv_fall_ne {m : zM} {i j : Nat} (hi : i < 4) (hj : j < 4) (h : i ≠ j) : rv (sFall m 0 j) i = rv m i := rv_eq (sFall_ne (by omega) (by omega) (by omega) (by omega)) (sFall_ne (by omega) (by omega) (by omega) (by omega)) (sFall_ne (by omega) (by omega) (by omega) (by omega))
theorem zSE_fall {m p : zM} {j : Nat} (hj : j < 4) (h : zSE m p) : zSE (sFall m 0 j) (sFall p 0 j) := by
  refine ⟨fun i hi => ?_, ?_, ?_⟩
  · by_cases e : i = j
    · subst e; rw [rv_fall (by omega), rv_fall (by omega), h.1 i hi]
    · rw [rv_fall_ne hi hj e, rv_fall_ne hi hj e, h.1 i hi]
  · rw [sFall_site (by omega), sFall_site (by omega), pk_us, pk_us, h.2.1, h.f hj (by decide)]
  · rw [sFall_site (by omega), sFall_site (by omega), pk_un (by decide), pk_un (by decide), h.2.2]
theorem zSE_FN {m p : zM} {j : Nat} (hj : j < 4) (h : zSE m p) : zSE (sFN m 0 j) (sFN p 0 j) := by
  unfold sFN
  rw [h.f hj (show 7 < 8 by decide), h.1 j hj]
  by_cases c1 : p (3 * j) 7 = 0
  · rw [if_pos c1, if_pos c1]; exact h
  · rw [if_neg c1, if_neg c1]
    by_cases c2 : fStands (rv p j) = 0
    · rw [if_pos c2, if_pos c2]; exact zSE_fall hj h
    · rw [if_neg c2, if_neg c2]; exact h
theorem rv_wkM_ne {m : zM} {i j q : Nat} {way : Int32} (hi : i < 4) (hj : j < 4) (h : i ≠ j) : rv (wkM 0 j q way m) i = rv m i := by
  unfold wkM
  rw [rv_ne (by omega) (by omega) (by omega), rv_ne (by omega) (by omega) (by omega)]
theorem wkM_87 {m : zM} {j q : Nat} {way : Int32} (hj : j < 4) : wkM 0 j q way m 87 1 = m 87 1 ∧ wkM 0 j q way m 87 2 = m 87 2 + 1 := by
  unfold wkM
  exact ⟨by rw [show 87 + 0 = 87 by rfl, mset_ne2 _ _ (by decide), mset_ne _ _ _ (by omega)], by rw [show 87 + 0 = 87 by rfl, mset_at]⟩
theorem zSE_wkM {m p : zM} {j q : Nat} {way : Int32} (hj : j < 4) (hq : q < 3) (h : zSE m p) : zSE (wkM 0 j q way m) (wkM 0 j q way p) := by
  refine ⟨fun i hi => ?_, ?_, ?_⟩
  · by_cases e : i = j
    · subst e; rw [rv_wkM (by omega) hq, rv_wkM (by omega) hq, h.1 i hi, h.s hi hq]
    · rw [rv_wkM_ne hi hj e, rv_wkM_ne hi hj e, h.1 i hi]
  · rw [(wkM_87 hj).1, (wkM_87 hj).1, h.2.1]
  · rw [(wkM_87 hj).2, (wkM_87 hj).2, h.2.2]
theorem zSE_walk {j q : Nat} {way st : Int32} (hj : j < 4) (hq : q < 3) : ∀ (d : Nat) (m p : zM), zSE m p → zSE (wkGo 0 j q way st d m).2 (wkGo 0 j q way st d p).2 ∧ (wkGo 0 j q way st d m).1 = (wkGo 0 j q way st d p).1
  | 0, m, p, h => by rw [wkGo, wkGo]; exact ⟨h, rfl⟩
  | d + 1, m, p, h => by
    have k := zSE_wkM (way := way) hj hq h
    rw [wkGo_succ, wkGo_succ, k.1 j hj]
    by_cases c1 : fStands (rv (wkM 0 j q way p) j) = 0
    · rw [if_pos c1, if_pos c1]; exact ⟨zSE_fall hj k, rfl⟩
    · rw [if_neg c1, if_neg c1]; exact zSE_walk hj hq d _ _ k
/-! what is saved, what comes back -/
theorem sSv_ne {m : zM} {q z i : Nat} (h : i < 12 * (q + 1) ∨ 12 * (q + 1) + 12 ≤ i) (h87 : i ≠ 87 + (q + 1)) (h101 : i ≠ 101) : sSave m q z i = m i := by
  unfold sSave
  rw [mset_ne _ _ _ h101, mset_ne _ _ _ h101, sSiteCopy_ne h h87]
theorem sSv_rv {m : zM} {q z i : Nat} (hq : q < 6) (hi : i < 4) : rv (sSave m q z) i = rv m i := rv_eq (sSv_ne (by omega) (by omega) (by omega)) (sSv_ne (by omega) (by omega) (by omega)) (sSv_ne (by omega) (by omega) (by omega))
theorem sSv_SE {m : zM} {q z : Nat} (hq : q < 6) : zSE (sSave m q z) m := ⟨fun i hi => sSv_rv hq hi, by rw [sSv_ne (by omega) (by omega) (by omega)], by rw [sSv_ne (by omega) (by omega) (by omega)]⟩
theorem sSv_101 {m : zM} {q z : Nat} : sSave m q z 101 1 = (if q + 1 < 6 then nI (q + 1) else 0) ∧ sSave m q z 101 2 = (if z < 6 then nI (z + 1) else 6) := by
  unfold sSave
  exact ⟨by rw [mset_ne2 _ _ (by decide), mset_at], by rw [mset_at]⟩
/-- the next place -/
def nx (q : Nat) : Nat := if q + 1 < 6 then q + 1 else 0
theorem latest_nx {q : Nat} (hq : q < 6) : latest (nx q) = q := by
  unfold latest nx
  by_cases h : q + 1 < 6
  · rw [if_pos h, if_pos (by omega)]; omega
  · rw [if_neg h, if_neg (by omega)]; omega
/-- the save's copy, brought back behind any change of the site alone -/
theorem back_SE {m u : zM} {q z n : Nat} (hq : q < 6) (hk : zKp (sSave m q z) u) : zSE (sRest u q n) m := by
  have e101 : ∀ i, i ≠ 101 → sRest u q n i = sSiteCopy u 0 (q + 1) i := fun i hi => by
    unfold sRest
    rw [mset_ne _ _ _ hi, mset_ne _ _ _ hi]
  have s87 := sSiteCopy_87 (c := u) (t := 0) (t2 := q + 1) (by omega) (by omega)
  have t87 := sSiteCopy_87 (c := m) (t := q + 1) (t2 := 0) (by omega) (by omega)
  have eu : u (87 + (q + 1)) = sSiteCopy m (q + 1) 0 (87 + (q + 1)) := by
    rw [hk _ (by omega) (by omega)]
    unfold sSave
    rw [mset_ne _ _ _ (by omega), mset_ne _ _ _ (by omega)]
  refine ⟨fun i hi => ?_, ?_, ?_⟩
  · have a : rv (sRest u q n) i = rv (sSiteCopy u 0 (q + 1)) (4 * 0 + i) := by
      rw [show 4 * 0 + i = i by omega]
      exact rv_eq (e101 _ (by omega)) (e101 _ (by omega)) (e101 _ (by omega))
    rw [a, sSiteCopy_rv (by omega) (by omega) (by omega) hi]
    have b : rv u (4 * (q + 1) + i) = rv (sSiteCopy m (q + 1) 0) (4 * (q + 1) + i) := by
      have eu2 : ∀ x, 12 ≤ x → x ≠ 87 → x ≠ 101 → u x = sSiteCopy m (q + 1) 0 x := fun x x1 x2 x3 => by
        rw [hk _ x1 x2]
        unfold sSave
        rw [mset_ne _ _ _ x3, mset_ne _ _ _ x3]
      exact rv_eq (eu2 _ (by omega) (by omega) (by omega)) (eu2 _ (by omega) (by omega) (by omega)) (eu2 _ (by omega) (by omega) (by omega))
    rw [b, sSiteCopy_rv (by omega) (by omega) (by omega) hi, show 4 * 0 + i = i by omega]
  · rw [e101 87 (by omega)]
    exact s87.1.trans ((congrFun eu 1).trans t87.1)
  · rw [e101 87 (by omega)]
    exact s87.2.trans ((congrFun eu 2).trans t87.2)
/-! what stays true -/
theorem zFl_mono {B B' : Nat} {m : zM} (hB : B ≤ B') (h : zFl B m) : zFl B' m := by
  obtain ⟨c, n, h1, h2, h3, h4, h5⟩ := h
  exact ⟨c, n, h1, h2, h3, h4, by omega⟩
theorem zFl_SE {B : Nat} {m p : zM} (h : zSE m p) (hf : zFl B m) : zFl B p := by
  obtain ⟨c, n, h1, h2, h3⟩ := hf
  exact ⟨c, n, fun i hi => by rw [← h.1 i hi]; exact h1 i hi, by rw [← h.2.1]; exact h2, h3⟩
theorem zSt_SE {m p : zM} (h : zSE m p) (hs : zSt m) : zSt p := fun i hi => by rw [← h.1 i hi]; exact hs i hi
theorem zIN_SE {B : Nat} {m p : zM} (h : zSE m p) (hi : zIN B m) : zIN B p := ⟨h.ok hi.1, zSt_SE h hi.2.1, zFl_SE h hi.2.2⟩
theorem zIN_mono {B B' : Nat} {m : zM} (hB : B ≤ B') (h : zIN B m) : zIN B' m := ⟨h.1, h.2.1, zFl_mono hB h.2.2⟩
theorem zFl_only {B j : Nat} {m u : zM} (ho : zOnly j m u) (h6 : rv u j 6 = rv m j 6) (hf : zFl B m) (hj : j < 4) : zFl B u := by
  obtain ⟨c, n, h1, h2, h3⟩ := hf
  refine ⟨c, n, fun i hi => ?_, by rw [ho 87 (by omega) (by omega) (by omega)]; exact h2, h3⟩
  by_cases e : i = j
  · subst e; rw [h6]; exact h1 i hi
  · rw [ho.rv e]; exact h1 i hi
theorem zFl_fall {B j p : Nat} {m : zM} (hj : j < 4) (h7 : rv m j 7 = nI p) (h0 : 0 < p) (h3 : p ≤ 3) (hf : zFl B m) : zFl (B + 3) (sFall m 0 j) := by
  obtain ⟨c, n, h1, h2, g1, g2, g3⟩ := hf
  refine ⟨fun i => if i = j then c i + 1 else c i, n + p, fun i hi => ?_, ?_, ?_, ?_, by omega⟩
  · show rv (sFall m 0 j) i 6 = nI (if i = j then c i + 1 else c i)
    by_cases e : i = j
    · subst e
      rw [rv_fall (by omega), if_pos rfl, ← nI_1, ← h1 i hi]
      unfold clR
      rw [if_neg (by decide), if_pos (by decide), pk_us]
    · rw [rv_fall_ne hi hj e, if_neg e]; exact h1 i hi
  · rw [sFall_site (by omega), pk_us, h2, show m (3 * j) 7 = nI p from h7, nI_add]
  · rcases (show j = 0 ∨ j = 1 ∨ j = 2 ∨ j = 3 by omega) with rfl | rfl | rfl | rfl <;> simp only [if_true, if_false, show ¬ (0 : Nat) = 1 by decide, show ¬ (0 : Nat) = 2 by decide, show ¬ (0 : Nat) = 3 by decide, show ¬ (1 : Nat) = 0 by decide, show ¬ (1 : Nat) = 2 by decide, show ¬ (1 : Nat) = 3 by decide, show ¬ (2 : Nat) = 0 by decide, show ¬ (2 : Nat) = 1 by decide, show ¬ (2 : Nat) = 3 by decide, show ¬ (3 : Nat) = 0 by decide, show ¬ (3 : Nat) = 1 by decide, show ¬ (3 : Nat) = 2 by decide] <;> omega
  · rcases (show j = 0 ∨ j = 1 ∨ j = 2 ∨ j = 3 by omega) with rfl | rfl | rfl | rfl <;> simp only [if_true, if_false, show ¬ (0 : Nat) = 1 by decide, show ¬ (0 : Nat) = 2 by decide, show ¬ (0 : Nat) = 3 by decide, show ¬ (1 : Nat) = 0 by decide, show ¬ (1 : Nat) = 2 by decide, show ¬ (1 : Nat) = 3 by decide, show ¬ (2 : Nat) = 0 by decide, show ¬ (2 : Nat) = 1 by decide, show ¬ (2 : Nat) = 3 by decide, show ¬ (3 : Nat) = 0 by decide, show ¬ (3 : Nat) = 1 by decide, show ¬ (3 : Nat) = 2 by decide] <;> omega
theorem zFl_wkM {B j q : Nat} {way : Int32} {m : zM} (hj : j < 4) (hq : q < 3) (hf : zFl B m) : zFl B (wkM 0 j q way m) := by
  obtain ⟨c, n, h1, h2, h3⟩ := hf
  refine ⟨c, n, fun i hi => ?_, by rw [(wkM_87 hj).1]; exact h2, h3⟩
  by_cases e : i = j
  · subst e; rw [rv_wkM (by omega) hq, pk_un (by omega)]; exact h1 i hi
  · rw [rv_wkM_ne hi hj e]; exact h1 i hi
/-- the rigs but j with people stand -/
def zSo (j : Nat) (m : zM) : Prop := ∀ i, i < 4 → i ≠ j → ¬ rv m i 7 = 0 → ¬ fStands (rv m i) = 0
theorem zSo_only {j : Nat} {m u : zM} (ho : zOnly j m u) (h : zSo j m) : zSo j u := fun i hi e => by rw [ho.rv e]; exact h i hi e
theorem zSt_fall {j : Nat} {m : zM} (hj : j < 4) (h : zSo j m) : zSt (sFall m 0 j) := fun i hi => by
  by_cases e : i = j
  · subst e
    intro h7
    refine absurd ?_ h7
    rw [rv_fall (by omega)]
    rfl
  · rw [rv_fall_ne hi hj e]; exact h i hi e
theorem zIN_FN {B j : Nat} {m : zM} (hj : j < 4) (hok : zOK m) (hs : zSo j m) (hf : zFl B m) : zIN (B + 3) (sFN m 0 j) := by
  refine ⟨zOK_FN hok hj, ?_⟩
  unfold sFN
  by_cases c1 : m (3 * j) 7 = 0
  · rw [if_pos c1]
    refine ⟨fun i hi => ?_, zFl_mono (by omega) hf⟩
    by_cases e : i = j
    · subst e; intro h7; exact absurd c1 h7
    · exact hs i hi e
  · rw [if_neg c1]
    obtain ⟨-, p, hp⟩ := hok j hj
    have hp0 : 0 < p := Nat.pos_of_ne_zero (fun z => c1 (by rw [show m (3 * j) 7 = nI p from hp.2.1, z]; rfl))
    by_cases c2 : fStands (rv m j) = 0
    · rw [if_pos c2]
      exact ⟨zSt_fall hj hs, zFl_fall hj hp.2.1 hp0 hp.1 hf⟩
    · rw [if_neg c2]
      refine ⟨fun i hi => ?_, zFl_mono (by omega) hf⟩
      by_cases e : i = j
      · subst e; intro _; exact c2
      · exact hs i hi e
theorem zSt_walk {B j q p : Nat} {way st : Int32} (hj : j < 4) (hq : q < 3) (h0 : 0 < p) (h3 : p ≤ 3) : ∀ (d : Nat) (m : zM), rv m j 7 = nI p → zSo j m → zFl B m → (d = 0 → zSt m) → zSt (wkGo 0 j q way st d m).2 ∧ zFl (B + 3) (wkGo 0 j q way st d m).2
  | 0, m, h7, hs, hf, hd => by rw [wkGo]; exact ⟨hd rfl, zFl_mono (by omega) hf⟩
  | d + 1, m, h7, hs, hf, hd => by
    have k7 : rv (wkM 0 j q way m) j 7 = nI p := by rw [rv_wkM (by omega) hq, pk_un (by omega)]; exact h7
    have ks : zSo j (wkM 0 j q way m) := fun i hi e => by rw [rv_wkM_ne hi hj e]; exact hs i hi e
    have kf := zFl_wkM (way := way) hj hq hf
    rw [wkGo_succ]
    by_cases c1 : fStands (rv (wkM 0 j q way m) j) = 0
    · rw [if_pos c1]; exact ⟨zSt_fall hj ks, zFl_fall hj k7 h0 h3 kf⟩
    · rw [if_neg c1]
      refine zSt_walk hj hq h0 h3 d _ k7 ks kf (fun _ i hi => ?_)
      by_cases e : i = j
      · subst e; intro _; exact c1
      · exact ks i hi e
