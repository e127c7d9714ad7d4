/-! the class's memory and the reference's -/
def zSite (B : Nat) (c : zM) (t : Nat) (s : Nat → Int32) : Prop := (∀ k, k < 4 → rFd (rv c (4 * t + k)) ∧ ∃ p, rPp (rv c (4 * t + k)) p ∧ mR s k (rv c (4 * t + k)) p) ∧ (∃ F, F ≤ B ∧ c (87 + t) 1 = nI F) ∧ s 56 = c (87 + t) 1 ∧ s 57 = c (87 + t) 2
theorem zSite_0 {B : Nat} {c : zM} {s : Nat → Int32} (h : zSite B c 0 s) : zOK c ∧ zS c s := by
  obtain ⟨h1, h2, h3, h4⟩ := h
  have h1' : ∀ k, k < 4 → rFd (rv c k) ∧ ∃ p, rPp (rv c k) p ∧ mR s k (rv c k) p := fun k hk => by
    have := h1 k hk
    rw [show 4 * 0 + k = k by omega] at this
    exact this
  exact ⟨fun k hk => ⟨(h1' k hk).1, (h1' k hk).2.elim (fun p hp => ⟨p, hp.1⟩)⟩, fun k hk => (h1' k hk).2, h3, h4⟩
theorem zSite_of {B F : Nat} {c : zM} {s : Nat → Int32} (h : zOK c) (h2 : zS c s) (hF : c 87 1 = nI F) (hB : F ≤ B) : zSite B c 0 s := by
  refine ⟨fun k hk => ?_, ⟨F, hB, hF⟩, h2.2.1, h2.2.2⟩
  rw [show 4 * 0 + k = k by omega]
  exact ⟨(h k hk).1, h2.1 k hk⟩
theorem zSite_congr {B B' : Nat} {c c' : zM} {t t' : Nat} {s s' : Nat → Int32} (hB : B ≤ B') (hr : ∀ k, k < 4 → rv c' (4 * t' + k) = rv c (4 * t + k)) (hs : ∀ j, j < 58 → s' j = s j) (h1 : c' (87 + t') 1 = c (87 + t) 1) (h2 : c' (87 + t') 2 = c (87 + t) 2) (h : zSite B c t s) : zSite B' c' t' s' := by
  obtain ⟨a1, ⟨F, hF, e⟩, a3, a4⟩ := h
  refine ⟨fun k hk => ?_, ⟨F, by omega, by rw [h1]; exact e⟩, by rw [hs _ (by omega), h1]; exact a3, by rw [hs _ (by omega), h2]; exact a4⟩
  rw [hr k hk]
  obtain ⟨b1, p, b2, b3⟩ := a1 k hk
  exact ⟨b1, p, b2, mR_congr b2.1 (fun j x y => hs j (by omega)) b3⟩
/-- the slot of the i-th that is saved -/
def zSl (q z i : Nat) : Nat := (q + 6 - z + i) % 6
def zH (B : Nat) (c mm : zM) (q z : Nat) : Prop := q < 6 ∧ z ≤ 6 ∧ c 101 1 = nI q ∧ c 101 2 = nI z ∧ mm 0 3 = nI z ∧ ∀ i, i < z → zSite B c (zSl q z i + 1) (fun j => mm 2 (58 * i + j))
def zBf (c mm : zM) (L : Nat) : Prop := L ≤ 60 ∧ c 103 1 = nI L ∧ mm 0 5 = nI L ∧ ∀ i, i < L → mm 3 i = c 104 i ∧ ∃ n : Nat, 33 ≤ n ∧ n ≤ 126 ∧ c 104 i = nI n
def zR (B : Nat) (c mm : zM) (q z L : Nat) : Prop := zSite B c 0 (mm 1) ∧ zH B c mm q z ∧ zBf c mm L
/-- other fields of the reference may change -/
theorem zR_fld {B : Nat} {c mm u : zM} {q z L : Nat} (h : zR B c mm q z L) (h1 : u 1 = mm 1) (h2 : u 2 = mm 2) (h3 : u 3 = mm 3) (h4 : u 0 3 = mm 0 3) (h5 : u 0 5 = mm 0 5) : zR B c u q z L := by
  obtain ⟨a1, ⟨b1, b2, b3, b4, b5, b6⟩, d1, d2, d3, d4⟩ := h
  refine ⟨by rw [h1]; exact a1, ⟨b1, b2, b3, b4, by rw [h4]; exact b5, fun i hi => by rw [h2]; exact b6 i hi⟩, d1, d2, by rw [h5]; exact d3, fun i hi => by rw [h3]; exact d4 i hi⟩
/-- the site has changed, on both sides -/
theorem zR_site {B B' F : Nat} {c c' mm u : zM} {q z L : Nat} (hB : B ≤ B') (h : zR B c mm q z L) (hc : ∀ i, 12 ≤ i → i ≠ 87 → c' i = c i) (hok : zOK c') (hS : zS c' (u 1)) (hF : c' 87 1 = nI F) (hFB : F ≤ B') (h2 : u 2 = mm 2) (h3 : u 3 = mm 3) (h4 : u 0 3 = mm 0 3) (h5 : u 0 5 = mm 0 5) : zR B' c' u q z L := by
  obtain ⟨a1, ⟨b1, b2, b3, b4, b5, b6⟩, d1, d2, d3, d4⟩ := h
  refine ⟨zSite_of hok hS hF hFB, ⟨b1, b2, by rw [hc _ (by omega) (by omega)]; exact b3, by rw [hc _ (by omega) (by omega)]; exact b4, by rw [h4]; exact b5, fun i hi => ?_⟩, d1, by rw [hc _ (by omega) (by omega)]; exact d2, by rw [h5]; exact d3, fun i hi => by rw [h3, hc 104 (by omega) (by omega)]; exact d4 i hi⟩
  refine zSite_congr hB (fun k hk => rv_eq (hc _ (by omega) ?_) (hc _ (by omega) ?_) (hc _ (by omega) ?_)) (fun j hj => by rw [h2]) (by rw [hc _ (by omega) (by omega)]) (by rw [hc _ (by omega) (by omega)]) (b6 i hi)
  all_goals (have : zSl q z i < 6 := Nat.mod_lt _ (by omega); omega)
/-- the copy of a site -/
theorem sSiteCopy_rv {c : zM} {t t2 k : Nat} (ht : t < 7) (ht2 : t2 < 7) (hne : t ≠ t2) (hk : k < 4) : rv (sSiteCopy c t t2) (4 * t + k) = rv c (4 * t2 + k) := by
  unfold sSiteCopy sCopy4
  rw [rv_ne (by omega) (by omega) (by omega), rv_ne (by omega) (by omega) (by omega)]
  rcases (show k = 0 ∨ k = 1 ∨ k = 2 ∨ k = 3 by omega) with rfl | rfl | rfl | rfl
  · rw [rv_copy_ne (by omega), rv_copy_ne (by omega), rv_copy_ne (by omega), rv_copy]
  · rw [rv_copy_ne (by omega), rv_copy_ne (by omega), rv_copy, rv_copy_ne (by omega)]
  · rw [rv_copy_ne (by omega), rv_copy, rv_copy_ne (by omega), rv_copy_ne (by omega)]
  · rw [rv_copy, rv_copy_ne (by omega), rv_copy_ne (by omega), rv_copy_ne (by omega)]
theorem sSiteCopy_ne {c : zM} {t t2 i : Nat} (h : i < 12 * t ∨ 12 * t + 12 ≤ i) (h87 : i ≠ 87 + t) : sSiteCopy c t t2 i = c i := by
  unfold sSiteCopy sCopy4
  rw [mset_ne _ _ _ h87, mset_ne _ _ _ h87, sCopy_ne (by omega) (by omega) (by omega), sCopy_ne (by omega) (by omega) (by omega), sCopy_ne (by omega) (by omega) (by omega), sCopy_ne (by omega) (by omega) (by omega)]
theorem sSiteCopy_87 {c : zM} {t t2 : Nat} (ht : t < 7) (ht2 : t2 < 7) : sSiteCopy c t t2 (87 + t) 1 = c (87 + t2) 1 ∧ sSiteCopy c t t2 (87 + t) 2 = c (87 + t2) 2 := by
  have e : sCopy4 c t t2 (87 + t2) = c (87 + t2) := by
    unfold sCopy4
    rw [sCopy_ne (by omega) (by omega) (by omega), sCopy_ne (by omega) (by omega) (by omega), sCopy_ne (by omega) (by omega) (by omega), sCopy_ne (by omega) (by omega) (by omega)]
  unfold sSiteCopy
  rw [e]
  exact ⟨by rw [mset_ne2 _ _ (by decide), mset_at], mset_at _ _ _ _⟩
/-- one more is saved -/
theorem zR_save {B : Nat} {c mm u : zM} {q z L : Nat} (h : zR B c mm q z L) (h1 : u 1 = mm 1) (h2 : u 2 = mSv mm z) (h3 : u 3 = mm 3) (h0 : u 0 = upd (mm 0) 3 (nI (if z < 6 then z + 1 else 6))) : zR B (sSave c q z) u (if q + 1 < 6 then q + 1 else 0) (if z < 6 then z + 1 else 6) L := by
  obtain ⟨a1, ⟨b1, b2, b3, b4, b5, b6⟩, d1, d2, d3, d4⟩ := h
  have keep : ∀ i, 12 * (q + 1) + 12 ≤ i ∨ i < 12 * (q + 1) → i ≠ 87 + (q + 1) → i ≠ 101 → sSave c q z i = c i := fun i x y w => by
    unfold sSave
    rw [mset_ne _ _ _ w, mset_ne _ _ _ w, sSiteCopy_ne (by omega) y]
  have rvk : ∀ t k, t < 7 → k < 4 → t ≠ q + 1 → rv (sSave c q z) (4 * t + k) = rv c (4 * t + k) := fun t k ht hk ne => rv_eq (keep _ (by omega) (by omega) (by omega)) (keep _ (by omega) (by omega) (by omega)) (keep _ (by omega) (by omega) (by omega))
  have rvq : ∀ k, k < 4 → rv (sSave c q z) (4 * (q + 1) + k) = rv c (4 * 0 + k) := fun k hk => by
    have e : rv (sSave c q z) (4 * (q + 1) + k) = rv (sSiteCopy c (q + 1) 0) (4 * (q + 1) + k) := by
      unfold sSave
      rw [rv_ne (by omega) (by omega) (by omega), rv_ne (by omega) (by omega) (by omega)]
    rw [e]
    exact sSiteCopy_rv (by omega) (by omega) (by omega) hk
  have s87 : sSave c q z (87 + (q + 1)) = sSiteCopy c (q + 1) 0 (87 + (q + 1)) := by
    unfold sSave
    rw [mset_ne _ _ _ (by omega), mset_ne _ _ _ (by omega)]
  have s87' := sSiteCopy_87 (c := c) (t := q + 1) (t2 := 0) (by omega) (by omega)
  -- the newest
  have new : ∀ f : Nat → Int32, (∀ j, j < 58 → f j = mm 1 j) → zSite B (sSave c q z) (q + 1) f := fun f hf => zSite_congr (t := 0) (Nat.le_refl B) rvq hf (by rw [s87]; exact s87'.1) (by rw [s87]; exact s87'.2) a1
  have old : ∀ (i' i : Nat) (f : Nat → Int32), i < z → zSl q z i ≠ q → (∀ j, j < 58 → f j = mm 2 (58 * i + j)) → zSl q z i = i' → zSite B (sSave c q z) (i' + 1) f := fun i' i f hi ne hf e => by
    have lt : zSl q z i < 6 := Nat.mod_lt _ (by omega)
    subst e
    exact zSite_congr (t := zSl q z i + 1) (Nat.le_refl B) (fun k hk => rvk _ k (by omega) hk (by omega)) hf (by rw [keep _ (by omega) (by omega) (by omega)]) (by rw [keep _ (by omega) (by omega) (by omega)]) (b6 i hi)
  refine ⟨?_, ⟨by split <;> omega, by split <;> omega, ?_, ?_, by rw [h0, pk_us], ?_⟩, d1, by rw [keep _ (by omega) (by omega) (by omega)]; exact d2, by rw [h0, pk_un (by decide)]; exact d3, fun i hi => by rw [h3, keep 104 (by omega) (by omega) (by omega)]; exact d4 i hi⟩
  · rw [h1]
    exact zSite_congr (t := 0) (Nat.le_refl B) (fun k hk => rvk 0 k (by omega) hk (by omega)) (fun _ _ => rfl) (by rw [keep _ (by omega) (by omega) (by omega)]) (by rw [keep _ (by omega) (by omega) (by omega)]) a1
  · unfold sSave
    rw [mset_ne2 _ _ (by decide), mset_at]
    split <;> rfl
  · unfold sSave
    rw [mset_at]
    split <;> rfl
  · intro i hi
    rw [h2]
    by_cases z6 : z < 6
    · rw [if_pos z6] at hi ⊢
      by_cases iz : i = z
      · subst iz
        have : zSl (if q + 1 < 6 then q + 1 else 0) (i + 1) i = q := by unfold zSl; split <;> omega
        rw [this]
        exact new _ (fun j hj => by
          unfold mSv
          rw [if_pos z6, if_pos (by omega), show 58 * i + j - 58 * i = j by omega])
      · have e : zSl q z i = zSl (if q + 1 < 6 then q + 1 else 0) (z + 1) i := by unfold zSl; split <;> omega
        refine old _ i _ (by omega) (by unfold zSl; omega) (fun j hj => ?_) e
        unfold mSv
        rw [if_pos z6, if_neg (by omega)]
    · rw [if_neg z6] at hi ⊢
      have hz : z = 6 := by omega
      subst hz
      by_cases i5 : i = 5
      · subst i5
        have : zSl (if q + 1 < 6 then q + 1 else 0) 6 5 = q := by unfold zSl; split <;> omega
        rw [this]
        exact new _ (fun j hj => by
          unfold mSv
          rw [if_neg z6, if_neg (by omega), if_pos (by omega), show 58 * 5 + j - 290 = j by omega])
      · have e : zSl q 6 (i + 1) = zSl (if q + 1 < 6 then q + 1 else 0) 6 i := by unfold zSl; split <;> omega
        refine old _ (i + 1) _ (by omega) (by unfold zSl; omega) (fun j hj => ?_) e
        unfold mSv
        rw [if_neg z6, if_pos (by omega), show 58 * i + j + 58 = 58 * (i + 1) + j by omega]
