/-! what the looks that try come to -/
theorem upd_same (R : Nat → Int32) (k : Nat) : upd R k (R k) = R := by
  funext b
  by_cases h : b = k
  · subst h; exact pk_us
  · exact pk_un h
theorem zHold_rope {b h g w L M r r' f : Int} {bark : Prop} (hh : 0 < h) (hr : r ≤ r') (H : zHold b h g w L M r f bark) : zHold b h g w L M r' f bark := by
  refine ⟨H.1, H.2.1, H.2.2.1, Int.le_trans H.2.2.2 ?_⟩
  exact Int.mul_le_mul_of_nonneg_left (by omega) (by omega)
theorem zHold_wall {b h g w w' L M r f : Int} {bark bark' : Prop} (hw : w ≤ w') (hb : ¬ bark') (H : zHold b h g w L M r f bark) : zHold b h g w' L M r f bark' := by
  refine ⟨H.1, ⟨Int.le_trans H.2.1.1 ?_, fun q => absurd q hb⟩, H.2.2⟩
  exact Int.mul_le_mul_of_nonneg_right hw H.1
theorem zHold_glass {b h g w' L M r f : Int} {bark bark' : Prop} (hh : 0 < h) (hw : 0 ≤ w') (H : zHold b h g 0 L M r f bark) : zHold b h g w' L M r f bark' := by
  have h1 := H.2.1.1
  rw [Int.zero_mul] at h1
  have hf : f = 0 := by
    have h2 : ¬ 0 < (if f < 0 then -f else f) := fun q => by
      have := Int.mul_pos (show 0 < 1000 * h by omega) q
      omega
    by_cases q : f < 0
    · rw [if_pos q] at h2; omega
    · rw [if_neg q] at h2; omega
  subst hf
  refine ⟨H.1, ⟨?_, fun _ => by omega⟩, H.2.2⟩
  rw [if_neg (by omega), Int.mul_zero]
  exact Int.mul_nonneg hw H.1
theorem rV_rope {R : Nat → Int32} {b h g w L M r : Int} (V : rV R b h g w L M r) {k : Nat} (hk : k ≤ 200) : rV (upd R 5 (nI k)) b h g w L M k := by
  obtain ⟨e0, e1, e2, e3, e4, e5, -, q1, q2, q3, q4, q5, q6, -⟩ := V
  have e : ∀ j, j ≠ 5 → upd R 5 (nI k) j = R j := fun j hj => pk_un hj
  refine ⟨?_, ?_, ?_, ?_, ?_, ?_, ?_, q1, q2, q3, q4, q5, q6, by omega, by omega⟩
  · rw [e 0 (by decide)]; exact e0
  · rw [e 1 (by decide)]; exact e1
  · unfold fGP; rw [e 3 (by decide)]; exact e2
  · unfold fWP; rw [e 4 (by decide)]; exact e3
  · unfold fLoad; rw [e 2 (by decide), e 8 (by decide), e 9 (by decide), e 10 (by decide)]; exact e4
  · unfold fMoment; rw [e 0 (by decide), e 2 (by decide), e 8 (by decide), e 9 (by decide), e 10 (by decide), e 11 (by decide), e 12 (by decide), e 13 (by decide)]; exact e5
  · rw [pk_us]; exact zL (by omega)
/-- the percents of a wall -/
def zWk (k : Nat) : Int := if k = 0 then 0 else if k = 1 then 20 else if k = 2 then 45 else 60
theorem rV_wall {R : Nat → Int32} {b h g w L M r : Int} (V : rV R b h g w L M r) {k : Nat} (hk : k < 4) : rV (upd R 4 (nI k)) b h g (zWk k) L M r := by
  obtain ⟨e0, e1, e2, -, e4, e5, e6, q1, q2, q3, -, q5, q6, q7⟩ := V
  have e : ∀ j, j ≠ 4 → upd R 4 (nI k) j = R j := fun j hj => pk_un hj
  have w4 : (fWP (upd R 4 (nI k))).toInt = zWk k := by
    unfold fWP
    rw [pk_us]
    rcases (show k = 0 ∨ k = 1 ∨ k = 2 ∨ k = 3 by omega) with rfl | rfl | rfl | rfl <;> decide
  refine ⟨?_, ?_, ?_, w4, ?_, ?_, ?_, q1, q2, q3, ?_, q5, q6, q7⟩
  · rw [e 0 (by decide)]; exact e0
  · rw [e 1 (by decide)]; exact e1
  · unfold fGP; rw [e 3 (by decide)]; exact e2
  · unfold fLoad; rw [e 2 (by decide), e 8 (by decide), e 9 (by decide), e 10 (by decide)]; exact e4
  · unfold fMoment; rw [e 0 (by decide), e 2 (by decide), e 8 (by decide), e 9 (by decide), e 10 (by decide), e 11 (by decide), e 12 (by decide), e 13 (by decide)]; exact e5
  · rw [e 5 (by decide)]; exact e6
  · unfold zWk
    repeat' split
    all_goals omega
theorem stands_rope {R : Nat → Int32} {b h g w L M r : Int} (V : rV R b h g w L M r) {k k' : Nat} (hk : k ≤ k') (hk' : k' ≤ 200) (hs : ¬ fStands (upd R 5 (nI k)) = 0) : ¬ fStands (upd R 5 (nI k')) = 0 := by
  have V1 := rV_rope V (show k ≤ 200 by omega)
  have V2 := rV_rope V hk'
  obtain ⟨lo, hi, H1⟩ := rLH_of V1
  obtain ⟨lo', hi', H2⟩ := rLH_of V2
  obtain ⟨f, a1, a2, a3⟩ := (fStands_held H1).mp hs
  refine (fStands_held H2).mpr ⟨f, a1, a2, (fWGW_iff V2 rfl a1 a2).mpr ?_⟩
  have := (fWGW_iff V1 rfl a1 a2).mp a3
  rw [pk_un (show 4 ≠ 5 by decide)] at this
  rw [pk_un (show 4 ≠ 5 by decide)]
  have hh := V.2.2.2.2.2.2.2.2.1
  exact zHold_rope (by omega) (by omega) this
theorem stands_wall12 {R : Nat → Int32} {b h g w L M r : Int} (V : rV R b h g w L M r) (hs : ¬ fStands (upd R 4 (nI 1)) = 0) : ¬ fStands (upd R 4 (nI 2)) = 0 := by
  have V1 := rV_wall V (show 1 < 4 by omega)
  have V2 := rV_wall V (show 2 < 4 by omega)
  obtain ⟨lo, hi, H1⟩ := rLH_of V1
  obtain ⟨lo', hi', H2⟩ := rLH_of V2
  obtain ⟨f, a1, a2, a3⟩ := (fStands_held H1).mp hs
  refine (fStands_held H2).mpr ⟨f, a1, a2, (fWGW_iff V2 rfl a1 a2).mpr ?_⟩
  exact zHold_wall (by decide) (by rw [pk_us]; decide) ((fWGW_iff V1 rfl a1 a2).mp a3)
theorem stands_glass {R : Nat → Int32} {b h g w L M r : Int} (V : rV R b h g w L M r) (hs : ¬ fStands (upd R 4 (nI 0)) = 0) {k : Nat} (hk : k < 4) : ¬ fStands (upd R 4 (nI k)) = 0 := by
  have V1 := rV_wall V (show 0 < 4 by omega)
  have V2 := rV_wall V hk
  obtain ⟨lo, hi, H1⟩ := rLH_of V1
  obtain ⟨lo', hi', H2⟩ := rLH_of V2
  obtain ⟨f, a1, a2, a3⟩ := (fStands_held H1).mp hs
  refine (fStands_held H2).mpr ⟨f, a1, a2, (fWGW_iff V2 rfl a1 a2).mpr ?_⟩
  have hh := V.2.2.2.2.2.2.2.2.1
  exact zHold_glass (by omega) V2.2.2.2.2.2.2.2.2.2.2.1.1 ((fWGW_iff V1 rfl a1 a2).mp a3)
/-! the rope -/
theorem fNRGo_spec (R : Nat → Int32) : ∀ n k : Nat, (fNRGo R n k = -1 ∧ ∀ j, k ≤ j → j < k + n → fStands (upd R 5 (nI j)) = 0) ∨ ∃ j, k ≤ j ∧ j < k + n ∧ fNRGo R n k = nI j ∧ ¬ fStands (upd R 5 (nI j)) = 0 ∧ ∀ i, k ≤ i → i < j → fStands (upd R 5 (nI i)) = 0
  | 0, k => Or.inl ⟨by rw [fNRGo], fun j a b => by omega⟩
  | n + 1, k => by
    rw [fNRGo_s]
    by_cases h : fStands (upd R 5 (nI k)) = 0
    · rw [if_pos h]
      rcases fNRGo_spec R n (k + 1) with ⟨a, b⟩ | ⟨j, a1, a2, a3, a4, a5⟩
      · refine Or.inl ⟨a, fun j c d => ?_⟩
        by_cases e : j = k
        · subst e; exact h
        · exact b j (by omega) (by omega)
      · refine Or.inr ⟨j, by omega, by omega, a3, a4, fun i c d => ?_⟩
        by_cases e : i = k
        · subst e; exact h
        · exact a5 i (by omega) d
    · rw [if_neg h]
      exact Or.inr ⟨k, Nat.le_refl k, by omega, rfl, h, fun i a b => by omega⟩
theorem fNR_of {R : Nat → Int32} {b h g w L M r : Int} (V : rV R b h g w L M r) : ¬ fNR R < -1 ∧ ¬ 200 < fNR R ∧ (¬ fStands R = 0 → ¬ fNR R < 0 ∧ ¬ R 5 < fNR R) ∧ (fStands R = 0 → fNR R = -1 ∨ ¬ fNR R ≤ R 5) := by
  have hr := V.2.2.2.2.2.2.2.2.2.2.2.2.2
  have e5 := V.2.2.2.2.2.2.1
  obtain ⟨x, hx, ex⟩ : ∃ x : Nat, x ≤ 200 ∧ R 5 = nI x := ⟨r.toNat, by omega, Int32.toInt_inj.mp (by rw [zL (by omega)]; omega)⟩
  have hself : upd R 5 (nI x) = R := by rw [← ex]; exact upd_same R 5
  have c1 : (-1 : Int32).toInt = -1 := by decide
  have c200 : (200 : Int32).toInt = 200 := by decide
  rcases fNRGo_spec R 201 0 with ⟨a, k⟩ | ⟨j, a1, a2, a3, a4, a5⟩
  · have e : fNR R = -1 := a
    rw [e]
    refine ⟨by decide, by decide, fun q => ?_, fun _ => Or.inl rfl⟩
    have := k x (by omega) (by omega)
    rw [hself] at this
    exact absurd this q
  · have e : fNR R = nI j := a3
    rw [e, ex]
    have ej := zL (n := j) (by omega)
    have exx := zL (n := x) (by omega)
    refine ⟨by rw [zltI ej c1]; omega, by rw [zltI c200 ej]; omega, fun q => ⟨by rw [zltI ej zc0]; omega, ?_⟩, fun q => Or.inr ?_⟩
    · rw [zltI exx ej]
      intro z
      have := a5 x (by omega) (by omega)
      rw [hself] at this
      exact q this
    · rw [zleI ej exx]
      intro z
      have := stands_rope V (show j ≤ x by omega) hx a4
      rw [hself] at this
      exact this q
/-! the walls -/
theorem fWL_bits (R : Nat → Int32) : ∃ m : Nat, m < 16 ∧ fWL R = nI m ∧ ∀ k, k < 4 → (m / 2 ^ k % 2 = 1 ↔ ¬ fStands (upd R 4 (nI k)) = 0) := by
  unfold fWL
  rw [fWLGo_s, fWLGo_s, fWLGo_s, fWLGo_s, fWLGo_s, fWLGo_s, fWLGo_s, fWLGo_s, fWLGo_s, fWLGo_s, fWLGo_s, fWLGo_s, fWLGo_s, fWLGo_s, fWLGo_s]
  by_cases h0 : fStands (upd R 4 (nI 0)) = 0 <;> by_cases h1 : fStands (upd R 4 (nI (0 + 1))) = 0 <;> by_cases h2 : fStands (upd R 4 (nI (0 + 1 + 1))) = 0 <;> by_cases h3 : fStands (upd R 4 (nI (0 + 1 + 1 + 1))) = 0
  · refine ⟨0, by decide, by simp only [h0, h1, h2, h3, if_true, if_false, fWLGo]; decide, fun k hk => ?_⟩
    rcases (show k = 0 ∨ k = 1 ∨ k = 2 ∨ k = 3 by omega) with rfl | rfl | rfl | rfl
    · exact ⟨fun q => absurd q (by decide), fun q => absurd h0 q⟩
    · exact ⟨fun q => absurd q (by decide), fun q => absurd h1 q⟩
    · exact ⟨fun q => absurd q (by decide), fun q => absurd h2 q⟩
    · exact ⟨fun q => absurd q (by decide), fun q => absurd h3 q⟩
  · refine ⟨8, by decide, by simp only [h0, h1, h2, h3, if_true, if_false, fWLGo]; decide, fun k hk => ?_⟩
    rcases (show k = 0 ∨ k = 1 ∨ k = 2 ∨ k = 3 by omega) with rfl | rfl | rfl | rfl
    · exact ⟨fun q => absurd q (by decide), fun q => absurd h0 q⟩
    · exact ⟨fun q => absurd q (by decide), fun q => absurd h1 q⟩
    · exact ⟨fun q => absurd q (by decide), fun q => absurd h2 q⟩
    · exact ⟨fun q => h3, fun q => by decide⟩
  · refine ⟨4, by decide, by simp only [h0, h1, h2, h3, if_true, if_false, fWLGo]; decide, fun k hk => ?_⟩
    rcases (show k = 0 ∨ k = 1 ∨ k = 2 ∨ k = 3 by omega) with rfl | rfl | rfl | rfl
    · exact ⟨fun q => absurd q (by decide), fun q => absurd h0 q⟩
    · exact ⟨fun q => absurd q (by decide), fun q => absurd h1 q⟩
    · exact ⟨fun q => h2, fun q => by decide⟩
    · exact ⟨fun q => absurd q (by decide), fun q => absurd h3 q⟩
  · refine ⟨12, by decide, by simp only [h0, h1, h2, h3, if_true, if_false, fWLGo]; decide, fun k hk => ?_⟩
    rcases (show k = 0 ∨ k = 1 ∨ k = 2 ∨ k = 3 by omega) with rfl | rfl | rfl | rfl
    · exact ⟨fun q => absurd q (by decide), fun q => absurd h0 q⟩
    · exact ⟨fun q => absurd q (by decide), fun q => absurd h1 q⟩
    · exact ⟨fun q => h2, fun q => by decide⟩
    · exact ⟨fun q => h3, fun q => by decide⟩
  · refine ⟨2, by decide, by simp only [h0, h1, h2, h3, if_true, if_false, fWLGo]; decide, fun k hk => ?_⟩
    rcases (show k = 0 ∨ k = 1 ∨ k = 2 ∨ k = 3 by omega) with rfl | rfl | rfl | rfl
    · exact ⟨fun q => absurd q (by decide), fun q => absurd h0 q⟩
    · exact ⟨fun q => h1, fun q => by decide⟩
    · exact ⟨fun q => absurd q (by decide), fun q => absurd h2 q⟩
    · exact ⟨fun q => absurd q (by decide), fun q => absurd h3 q⟩
  · refine ⟨10, by decide, by simp only [h0, h1, h2, h3, if_true, if_false, fWLGo]; decide, fun k hk => ?_⟩
    rcases (show k = 0 ∨ k = 1 ∨ k = 2 ∨ k = 3 by omega) with rfl | rfl | rfl | rfl
    · exact ⟨fun q => absurd q (by decide), fun q => absurd h0 q⟩
    · exact ⟨fun q => h1, fun q => by decide⟩
    · exact ⟨fun q => absurd q (by decide), fun q => absurd h2 q⟩
    · exact ⟨fun q => h3, fun q => by decide⟩
  · refine ⟨6, by decide, by simp only [h0, h1, h2, h3, if_true, if_false, fWLGo]; decide, fun k hk => ?_⟩
    rcases (show k = 0 ∨ k = 1 ∨ k = 2 ∨ k = 3 by omega) with rfl | rfl | rfl | rfl
    · exact ⟨fun q => absurd q (by decide), fun q => absurd h0 q⟩
    · exact ⟨fun q => h1, fun q => by decide⟩
    · exact ⟨fun q => h2, fun q => by decide⟩
    · exact ⟨fun q => absurd q (by decide), fun q => absurd h3 q⟩
  · refine ⟨14, by decide, by simp only [h0, h1, h2, h3, if_true, if_false, fWLGo]; decide, fun k hk => ?_⟩
    rcases (show k = 0 ∨ k = 1 ∨ k = 2 ∨ k = 3 by omega) with rfl | rfl | rfl | rfl
    · exact ⟨fun q => absurd q (by decide), fun q => absurd h0 q⟩
    · exact ⟨fun q => h1, fun q => by decide⟩
    · exact ⟨fun q => h2, fun q => by decide⟩
    · exact ⟨fun q => h3, fun q => by decide⟩
  · refine ⟨1, by decide, by simp only [h0, h1, h2, h3, if_true, if_false, fWLGo]; decide, fun k hk => ?_⟩
    rcases (show k = 0 ∨ k = 1 ∨ k = 2 ∨ k = 3 by omega) with rfl | rfl | rfl | rfl
    · exact ⟨fun q => h0, fun q => by decide⟩
    · exact ⟨fun q => absurd q (by decide), fun q => absurd h1 q⟩
    · exact ⟨fun q => absurd q (by decide), fun q => absurd h2 q⟩
    · exact ⟨fun q => absurd q (by decide), fun q => absurd h3 q⟩
  · refine ⟨9, by decide, by simp only [h0, h1, h2, h3, if_true, if_false, fWLGo]; decide, fun k hk => ?_⟩
    rcases (show k = 0 ∨ k = 1 ∨ k = 2 ∨ k = 3 by omega) with rfl | rfl | rfl | rfl
    · exact ⟨fun q => h0, fun q => by decide⟩
    · exact ⟨fun q => absurd q (by decide), fun q => absurd h1 q⟩
    · exact ⟨fun q => absurd q (by decide), fun q => absurd h2 q⟩
    · exact ⟨fun q => h3, fun q => by decide⟩
  · refine ⟨5, by decide, by simp only [h0, h1, h2, h3, if_true, if_false, fWLGo]; decide, fun k hk => ?_⟩
    rcases (show k = 0 ∨ k = 1 ∨ k = 2 ∨ k = 3 by omega) with rfl | rfl | rfl | rfl
    · exact ⟨fun q => h0, fun q => by decide⟩
    · exact ⟨fun q => absurd q (by decide), fun q => absurd h1 q⟩
    · exact ⟨fun q => h2, fun q => by decide⟩
    · exact ⟨fun q => absurd q (by decide), fun q => absurd h3 q⟩
  · refine ⟨13, by decide, by simp only [h0, h1, h2, h3, if_true, if_false, fWLGo]; decide, fun k hk => ?_⟩
    rcases (show k = 0 ∨ k = 1 ∨ k = 2 ∨ k = 3 by omega) with rfl | rfl | rfl | rfl
    · exact ⟨fun q => h0, fun q => by decide⟩
    · exact ⟨fun q => absurd q (by decide), fun q => absurd h1 q⟩
    · exact ⟨fun q => h2, fun q => by decide⟩
    · exact ⟨fun q => h3, fun q => by decide⟩
  · refine ⟨3, by decide, by simp only [h0, h1, h2, h3, if_true, if_false, fWLGo]; decide, fun k hk => ?_⟩
    rcases (show k = 0 ∨ k = 1 ∨ k = 2 ∨ k = 3 by omega) with rfl | rfl | rfl | rfl
    · exact ⟨fun q => h0, fun q => by decide⟩
    · exact ⟨fun q => h1, fun q => by decide⟩
    · exact ⟨fun q => absurd q (by decide), fun q => absurd h2 q⟩
    · exact ⟨fun q => absurd q (by decide), fun q => absurd h3 q⟩
  · refine ⟨11, by decide, by simp only [h0, h1, h2, h3, if_true, if_false, fWLGo]; decide, fun k hk => ?_⟩
    rcases (show k = 0 ∨ k = 1 ∨ k = 2 ∨ k = 3 by omega) with rfl | rfl | rfl | rfl
    · exact ⟨fun q => h0, fun q => by decide⟩
    · exact ⟨fun q => h1, fun q => by decide⟩
    · exact ⟨fun q => absurd q (by decide), fun q => absurd h2 q⟩
    · exact ⟨fun q => h3, fun q => by decide⟩
  · refine ⟨7, by decide, by simp only [h0, h1, h2, h3, if_true, if_false, fWLGo]; decide, fun k hk => ?_⟩
    rcases (show k = 0 ∨ k = 1 ∨ k = 2 ∨ k = 3 by omega) with rfl | rfl | rfl | rfl
    · exact ⟨fun q => h0, fun q => by decide⟩
    · exact ⟨fun q => h1, fun q => by decide⟩
    · exact ⟨fun q => h2, fun q => by decide⟩
    · exact ⟨fun q => absurd q (by decide), fun q => absurd h3 q⟩
  · refine ⟨15, by decide, by simp only [h0, h1, h2, h3, if_true, if_false, fWLGo]; decide, fun k hk => ?_⟩
    rcases (show k = 0 ∨ k = 1 ∨ k = 2 ∨ k = 3 by omega) with rfl | rfl | rfl | rfl
    · exact ⟨fun q => h0, fun q => by decide⟩
    · exact ⟨fun q => h1, fun q => by decide⟩
    · exact ⟨fun q => h2, fun q => by decide⟩
    · exact ⟨fun q => h3, fun q => by decide⟩
theorem fWL_of {R : Nat → Int32} {b h g w L M r : Int} (V : rV R b h g w L M r) (hfd : rFd R) : (fWL R >>> (R 4 &&& 31)) &&& 1 = fStands R ∧ (fWL R &&& 2 = 0 ∨ ¬ fWL R &&& 4 = 0) ∧ (fWL R &&& 1 = 0 ∨ fWL R = 15) := by
  obtain ⟨-, -, -, -, ⟨x1, x2⟩, -⟩ := hfd
  obtain ⟨x, hx, ex⟩ : ∃ x : Nat, x < 4 ∧ R 4 = nI x := ⟨(R 4).toInt.toNat, by omega, Int32.toInt_inj.mp (by rw [zL (by omega)]; omega)⟩
  have hself : upd R 4 (nI x) = R := by rw [← ex]; exact upd_same R 4
  obtain ⟨m, hm, e, bits⟩ := fWL_bits R
  rw [e, ex]
  refine ⟨?_, ?_, ?_⟩
  · have key : ∀ m, m < 16 → ∀ x, x < 4 → (nI m >>> (nI x &&& 31)) &&& 1 = nI (m / 2 ^ x % 2) := by decide +kernel
    rw [key m hm x hx]
    have bx := bits x hx
    rw [hself] at bx
    rcases fStands_01 R with q | q
    · have : ¬ m / 2 ^ x % 2 = 1 := fun z => bx.mp z q
      rw [show m / 2 ^ x % 2 = 0 by omega, q]; rfl
    · rw [bx.mpr (by rw [q]; decide), q]; rfl
  · have key : ∀ m, m < 16 → (m / 2 ^ 1 % 2 = 1 → m / 2 ^ 2 % 2 = 1) → (nI m &&& 2 = 0 ∨ ¬ nI m &&& 4 = 0) := by decide +kernel
    exact key m hm (fun q => (bits 2 (by omega)).mpr (stands_wall12 V ((bits 1 (by omega)).mp q)))
  · have key : ∀ m, m < 16 → (m / 2 ^ 0 % 2 = 1 → m / 2 ^ 1 % 2 = 1 ∧ m / 2 ^ 2 % 2 = 1 ∧ m / 2 ^ 3 % 2 = 1) → (nI m &&& 1 = 0 ∨ nI m = 15) := by decide +kernel
    refine key m hm (fun q => ?_)
    have g0 := (bits 0 (by omega)).mp q
    exact ⟨(bits 1 (by omega)).mpr (stands_glass V g0 (by omega)), (bits 2 (by omega)).mpr (stands_glass V g0 (by omega)), (bits 3 (by omega)).mpr (stands_glass V g0 (by omega))⟩
/-! the base -/
theorem fBBGo_spec (R : Nat → Int32) : ∀ (n k : Nat) (best most : Int32), (fBBGo R n k best most = best ∧ ∀ j, k ≤ j → j < k + n → fForces (upd R 0 (nI (10 + 5 * j))) ≤ most) ∨ ∃ j, k ≤ j ∧ j < k + n ∧ fBBGo R n k best most = nI (10 + 5 * j)
  | 0, k, best, most => Or.inl ⟨by rw [fBBGo], fun j a b => by omega⟩
  | n + 1, k, best, most => by
    rw [fBBGo_s]
    by_cases h : fForces (upd R 0 (nI (10 + 5 * k))) ≤ most
    · rw [if_pos h]
      rcases fBBGo_spec R n (k + 1) best most with ⟨a, b⟩ | ⟨j, a1, a2, a3⟩
      · refine Or.inl ⟨a, fun j c d => ?_⟩
        by_cases e : j = k
        · subst e; exact h
        · exact b j (by omega) (by omega)
      · exact Or.inr ⟨j, by omega, by omega, a3⟩
    · rw [if_neg h]
      rcases fBBGo_spec R n (k + 1) (nI (10 + 5 * k)) (fForces (upd R 0 (nI (10 + 5 * k)))) with ⟨a, b⟩ | ⟨j, a1, a2, a3⟩
      · exact Or.inr ⟨k, Nat.le_refl k, by omega, a⟩
      · exact Or.inr ⟨j, by omega, by omega, a3⟩
theorem fBB_of {R : Nat → Int32} (hfd : rFd R) (hF : ¬ fStands R = 0 → ¬ fForces R ≤ 0) : (fBB R = -1 ∨ (¬ fBB R < 10 ∧ ¬ 100 < fBB R ∧ fBB R - fBB R / 5 * 5 = 0)) ∧ (R 0 - R 0 / 5 * 5 = 0 → ¬ fStands R = 0 → ¬ fBB R ≤ 0) := by
  obtain ⟨⟨x1, x2⟩, -⟩ := hfd
  obtain ⟨x, hx, hx2, ex⟩ : ∃ x : Nat, 10 ≤ x ∧ x < 101 ∧ R 0 = nI x := ⟨(R 0).toInt.toNat, by omega, by omega, Int32.toInt_inj.mp (by rw [zL (by omega)]; omega)⟩
  have hself : upd R 0 (nI x) = R := by rw [← ex]; exact upd_same R 0
  have k5 : ∀ j, j < 19 → nI (10 + 5 * j) - nI (10 + 5 * j) / 5 * 5 = 0 := by decide +kernel
  have k6 : ∀ x, x < 101 → 10 ≤ x → nI x - nI x / 5 * 5 = 0 → x % 5 = 0 := by decide +kernel
  have c10 : (10 : Int32).toInt = 10 := by decide
  rcases fBBGo_spec R 19 0 (-1) 0 with ⟨a, k⟩ | ⟨j, a1, a2, a3⟩
  · have e : fBB R = -1 := a
    refine ⟨Or.inl e, fun q hs => ?_⟩
    rw [ex] at q
    have q5 := k6 x hx2 hx q
    have := k ((x - 10) / 5) (by omega) (by omega)
    rw [show 10 + 5 * ((x - 10) / 5) = x by omega, hself] at this
    exact absurd this (hF hs)
  · have e : fBB R = nI (10 + 5 * j) := a3
    have ej := zL (n := 10 + 5 * j) (by omega)
    rw [e]
    exact ⟨Or.inr ⟨by rw [zltI ej c10]; omega, by rw [zltI zc100 ej]; omega, k5 j (by omega)⟩, fun _ _ => by rw [zleI ej zc0]; omega⟩
/-! who should go first -/
theorem fRKGo_spec (R : Nat → Int32) : ∀ (n k : Nat) (worst most : Int32), fRKGo R n k worst most = worst ∨ ∃ j, k ≤ j ∧ j < k + n ∧ fRKGo R n k worst most = nI j
  | 0, k, worst, most => Or.inl (by rw [fRKGo])
  | n + 1, k, worst, most => by
    rw [fRKGo_s]
    by_cases h : worst = -1
    · rw [if_pos h]
      rcases fRKGo_spec R n (k + 1) (nI k) (fForces (rmR R k)) with a | ⟨j, a1, a2, a3⟩
      · exact Or.inr ⟨k, Nat.le_refl k, by omega, a⟩
      · exact Or.inr ⟨j, by omega, by omega, a3⟩
    · rw [if_neg h]
      by_cases h2 : fForces (rmR R k) ≤ most
      · rw [if_pos h2]
        rcases fRKGo_spec R n (k + 1) worst most with a | ⟨j, a1, a2, a3⟩
        · exact Or.inl a
        · exact Or.inr ⟨j, by omega, by omega, a3⟩
      · rw [if_neg h2]
        rcases fRKGo_spec R n (k + 1) (nI k) (fForces (rmR R k)) with a | ⟨j, a1, a2, a3⟩
        · exact Or.inr ⟨k, Nat.le_refl k, by omega, a⟩
        · exact Or.inr ⟨j, by omega, by omega, a3⟩
theorem fRK_of {R : Nat → Int32} {p : Nat} (h7 : R 7 = nI p) (hp : p ≤ 3) : (p = 0 → fRK R = -1) ∧ (¬ p = 0 → ¬ fRK R < 0 ∧ ¬ nI p ≤ fRK R) := by
  unfold fRK
  rw [h7, nI_clamp (by omega)]
  refine ⟨fun h => by subst h; rfl, fun h => ?_⟩
  obtain ⟨n, rfl⟩ : ∃ n, p = n + 1 := ⟨p - 1, by omega⟩
  have key : ∃ j, j < n + 1 ∧ fRKGo R (n + 1) 0 (-1) 0 = nI j := by
    rw [fRKGo_s, if_pos rfl]
    rcases fRKGo_spec R n (0 + 1) (nI 0) (fForces (rmR R 0)) with a | ⟨j, a1, a2, a3⟩
    · exact ⟨0, by omega, a⟩
    · exact ⟨j, by omega, a3⟩
  obtain ⟨j, hj, e⟩ := key
  rw [e]
  have ej := zL (n := j) (by omega)
  exact ⟨by rw [zltI ej zc0]; omega, by rw [zleI (zL (n := n + 1) (by omega)) ej]; omega⟩
/-! how high -/
theorem fHiGo_spec (R : Nat → Int32) (t : Nat) : ∀ n k : Nat, ∃ j, k ≤ j ∧ j ≤ k + n ∧ fHiGo R t n k = nI j
  | 0, k => ⟨k, Nat.le_refl k, Nat.le_refl k, by rw [fHiGo]⟩
  | n + 1, k => by
    rw [fHiGo_s]
    by_cases h : fStands (upd R (11 + t) (nI (k + 1))) = 0
    · rw [if_pos h]; exact ⟨k, Nat.le_refl k, by omega, rfl⟩
    · rw [if_neg h]
      obtain ⟨j, a1, a2, a3⟩ := fHiGo_spec R t n (k + 1)
      exact ⟨j, by omega, by omega, a3⟩
theorem fHi_of {R : Nat → Int32} {p t : Nat} (hp : rPp R p) (ht : t < p) : ¬ fHi R t < R (11 + t) ∧ ¬ 11 ≤ fHi R t := by
  have hp3 := hp.1
  obtain ⟨w, a, -, -, ha, -, e⟩ := (hp.2.2 t (by omega)).1 ht
  unfold fHi
  rw [e, nI_clamp (by omega)]
  obtain ⟨j, j1, j2, ej⟩ := fHiGo_spec R t (10 - a) a
  rw [ej]
  have e1 := zL (n := j) (by omega)
  exact ⟨by rw [zltI e1 (zL (n := a) (by omega))]; omega, by rw [zleI (a := 11) (by decide) e1]; omega⟩
