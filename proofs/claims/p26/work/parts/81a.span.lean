/-! the forces between the least and the greatest, as the law counts them -/
theorem dHeld {m : zM} {k : Nat} (hk : k < 4) {f : Int32} (hr : ¬ (f < -1000 ∨ 1000 < f)) : sHeld m (nI k) f = (.inr (fWGW (rv m k) f), m) := by
  unfold sHeld
  rw [nI_clamp (by omega)]
  exact (if_neg (zk4 hk)).trans (if_neg hr)
theorem zc1 : (1 : Int32).toInt = 1 := by decide
theorem zcm1000 : (-1000 : Int32).toInt = -1000 := by decide
theorem zrng {f : Int32} {F : Int} (hf : f.toInt = F) (h1 : -1000 ≤ F) (h2 : F ≤ 1000) : ¬ (f < -1000 ∨ 1000 < f) := by
  rw [zltI hf zcm1000, zltI zc1000 hf]
  omega
theorem fStands_ne (R : Nat → Int32) : ¬ fStands R = 0 → fStands R = 1 := by
  unfold fStands
  split
  · exact fun h => absurd rfl h
  · exact fun _ => rfl
theorem fStands_iff {R : Nat → Int32} {lo hi : Int} (H : rLH R lo hi) : ¬ fStands R = 0 ↔ lo ≤ hi := by
  obtain ⟨h1, h2, -, -, -⟩ := H
  unfold fStands
  by_cases h : fGreat R < fLeast R
  · rw [if_pos h]
    rw [zltI h2 h1] at h
    exact ⟨fun q => absurd rfl q, fun q => by omega⟩
  · rw [if_neg h]
    rw [zltI h2 h1] at h
    exact ⟨fun _ => by omega, fun _ => by decide⟩
/-- a rig stands where some force holds it -/
theorem fStands_held {R : Nat → Int32} {lo hi : Int} (H : rLH R lo hi) : ¬ fStands R = 0 ↔ ∃ f : Int32, -1000 ≤ f.toInt ∧ f.toInt ≤ 1000 ∧ fWGW R f = 0 := by
  rw [fStands_iff H]
  obtain ⟨h1, h2, h3, h4, h5⟩ := H
  constructor
  · intro h
    exact ⟨fLeast R, by omega, by omega, (h5 _ _ h1 (by omega) (by omega)).mpr ⟨by omega, h⟩⟩
  · rintro ⟨f, a, b, k⟩
    have := (h5 f _ rfl a b).mp k
    omega
theorem fWGW_pos (R : Nat → Int32) (f : Int32) (h : ¬ fWGW R f = 0) : 0 < fWGW R f := by
  revert h
  unfold fWGW fWGW3 fWGW2 fWGW1
  by_cases a1 : 0 ≤ fPush R f <;> by_cases a2 : fWallBad R f = true <;> by_cases a3 : f ≤ fLoad R <;> by_cases a4 : 100 * fPush R f ≤ 10 * R 1 * (fGP R * (fLoad R - f) + 100 * R 5) <;> simp only [a1, a2, a3, a4, if_true, if_false, Bool.false_eq_true] <;> decide
/-- what the law finds of a rig that stands -/
def zFo (R : Nat → Int32) : Prop := (¬ fForces R ≤ 0 ∧ ¬ fForces R = 0 ∧ ¬ fForces R < 0) ∧ fGreat R - fLeast R + 1 = fForces R ∧ (fWGW R (fLeast R) = 0 ∧ fWGW R (fGreat R) = 0 ∧ fWGW R (fNearest R) = 0) ∧ ((¬ fLeast R = -1000 → ¬ (fLeast R - 1 < -1000 ∨ 1000 < fLeast R - 1) ∧ ¬ fWGW R (fLeast R - 1) ≤ 0) ∧ (¬ fGreat R = 1000 → ¬ (fGreat R + 1 < -1000 ∨ 1000 < fGreat R + 1) ∧ ¬ fWGW R (fGreat R + 1) ≤ 0)) ∧ (¬ fNearest R < fLeast R ∧ ¬ fGreat R < fNearest R) ∧ ((¬ fNearest R = 0 → ¬ fLeast R ≤ 0 ∧ fNearest R = fLeast R) ∧ (¬ 0 < fLeast R → fNearest R = 0) ∧ ¬ fGreat R < 0) ∧ (¬ fPush R (fNearest R) < 0 ∧ ¬ fLoad R - fNearest R < 0) ∧ (R 4 = 3 → ¬ fLeast R < 0) ∧ ¬ (fLeast R < -1000 ∨ 1000 < fLeast R) ∧ ¬ (fGreat R < -1000 ∨ 1000 < fGreat R) ∧ ¬ (fNearest R < -1000 ∨ 1000 < fNearest R)
theorem zFo_of {R : Nat → Int32} {b h g w L M r : Int} (V : rV R b h g w L M r) {lo hi : Int} (H : rLH R lo hi) (hst : ¬ fStands R = 0) : zFo R := by
  have hle := (fStands_iff H).mp hst
  have hF := fForces_toInt H
  have hN := fNearest_toInt H
  obtain ⟨h1, h2, h3, h4, h5⟩ := id H
  have hN2 : (fNearest R).toInt = max lo 0 := by rw [hN]; omega
  have hF2 : (fForces R).toInt = hi - lo + 1 := by rw [hF]; omega
  have n0 : fWGW R (fNearest R) = 0 := (h5 _ _ hN2 (by omega) (by omega)).mpr ⟨by omega, by omega⟩
  have l0 : fWGW R (fLeast R) = 0 := (h5 _ _ h1 (by omega) (by omega)).mpr ⟨by omega, by omega⟩
  have g0 : fWGW R (fGreat R) = 0 := (h5 _ _ h2 (by omega) (by omega)).mpr ⟨by omega, by omega⟩
  have hH := (fWGW_iff V hN2 (by omega) (by omega)).mp n0
  have hHl := (fWGW_iff V h1 (by omega) (by omega)).mp l0
  obtain ⟨p1, -, -⟩ := fPush_toInt V hN2 (by omega) (by omega)
  have eL := V.2.2.2.2.1
  have hL := V.2.2.2.2.2.2.2.2.2.2.2.1
  have eG : (fGreat R - fLeast R + 1).toInt = hi - lo + 1 := zaI (zsI h2 h1 (by omega) (by omega)) zc1 (by omega) (by omega)
  refine ⟨⟨?_, ?_, ?_⟩, ?_, ⟨l0, g0, n0⟩, ⟨fun q => ?_, fun q => ?_⟩, ⟨?_, ?_⟩, ⟨fun q => ?_, fun q => ?_, ?_⟩, ⟨?_, ?_⟩, fun q => ?_, zrng h1 (by omega) (by omega), zrng h2 (by omega) (by omega), zrng hN2 (by omega) (by omega)⟩
  · rw [zleI hF2 zc0]; omega
  · rw [zeqI hF2 zc0]; omega
  · rw [zltI hF2 zc0]; omega
  · exact Int32.toInt_inj.mp (eG.trans hF2.symm)
  · rw [zeqI h1 zcm1000] at q
    have e1 : (fLeast R - 1).toInt = lo - 1 := zsI h1 zc1 (by omega) (by omega)
    refine ⟨zrng e1 (by omega) (by omega), Int32.not_le.mpr (fWGW_pos _ _ (fun z => ?_))⟩
    have := (h5 _ _ e1 (by omega) (by omega)).mp z
    omega
  · rw [zeqI h2 zc1000] at q
    have e1 : (fGreat R + 1).toInt = hi + 1 := zaI h2 zc1 (by omega) (by omega)
    refine ⟨zrng e1 (by omega) (by omega), Int32.not_le.mpr (fWGW_pos _ _ (fun z => ?_))⟩
    have := (h5 _ _ e1 (by omega) (by omega)).mp z
    omega
  · rw [zltI hN2 h1]; omega
  · rw [zltI h2 hN2]; omega
  · rw [zeqI hN2 zc0] at q
    refine ⟨by rw [zleI h1 zc0]; omega, Int32.toInt_inj.mp ?_⟩
    rw [hN2, h1]; omega
  · rw [zltI zc0 h1] at q
    rw [zeqI hN2 zc0]; omega
  · rw [zltI h2 zc0]; omega
  · rw [zltI p1 zc0]
    have := hH.1
    omega
  · have e1 : (fLoad R - fNearest R).toInt = L - max lo 0 := zsI eL hN2 (by omega) (by omega)
    rw [zltI e1 zc0]
    have := hH.2.2.1
    omega
  · have := hHl.2.1.2 q
    rw [zltI h1 zc0]; omega
theorem zFo_not {R : Nat → Int32} {lo hi : Int} (H : rLH R lo hi) (hst : fStands R = 0) : fForces R = 0 := by
  have hle : ¬ lo ≤ hi := fun q => (fStands_iff H).mpr q hst
  have hF := fForces_toInt H
  rw [zeqI (b := 0) hF zc0]
  omega
/-- the i-th force -/
def zF (i : Nat) : Int32 := nI i - 1000
theorem zF_toInt {i : Nat} (hi : i ≤ 3000) : (zF i).toInt = (i : Int) - 1000 := zsI (zL (by omega)) zc1000 (by omega) (by omega)
theorem zF_0 : (-1000 : Int32) = zF 0 := by decide
theorem zF_s {i : Nat} (hi : i ≤ 2900) : zF i + 1 = zF (i + 1) := by
  refine Int32.toInt_inj.mp ?_
  rw [zaI (zF_toInt (by omega)) zc1 (by omega) (by omega), zF_toInt (by omega)]
  omega
theorem zF_gt {i : Nat} (hi : i ≤ 2900) : (1000 : Int32) < zF i ↔ 2000 < i := by
  rw [zltI zc1000 (zF_toInt (by omega))]
  omega
theorem zF_in {i : Nat} (hi : i ≤ 2000) : ¬ (zF i < -1000 ∨ 1000 < zF i) := zrng (zF_toInt (by omega)) (by omega) (by omega)
/-- how many of the first i hold -/
def zHc (R : Nat → Int32) : Nat → Nat
  | 0 => 0
  | i + 1 => zHc R i + (if fWGW R (zF i) = 0 then 1 else 0)
theorem zHc_s (R : Nat → Int32) (i : Nat) : nI (zHc R i) + (if fWGW R (zF i) = 0 then (1 : Int32) else 0) = nI (zHc R (i + 1)) := by
  rw [zHc]
  by_cases h : fWGW R (zF i) = 0
  · rw [if_pos h, if_pos h, nI_1]
  · rw [if_neg h, if_neg h, Int32.add_zero, Nat.add_zero]
theorem zHc_eq {R : Nat → Int32} {lo hi : Int} (H : rLH R lo hi) : ∀ i : Nat, i ≤ 2001 → (zHc R i : Int) = max 0 (min (i : Int) (hi + 1001) - (lo + 1000)) := by
  obtain ⟨h1, h2, h3, h4, h5⟩ := H
  intro i
  induction i with
  | zero => intro _; rw [zHc]; omega
  | succ i ih =>
    intro hi1
    have e := ih (by omega)
    have k := h5 (zF i) _ (zF_toInt (by omega)) (by omega) (by omega)
    rw [zHc]
    by_cases h : fWGW R (zF i) = 0
    · have := k.mp h
      rw [if_pos h]
      omega
    · have := mt k.mpr h
      rw [if_neg h]
      omega
theorem zHc_all {R : Nat → Int32} {lo hi : Int} (H : rLH R lo hi) : nI (zHc R 2001) = fForces R := by
  have e := zHc_eq H 2001 (by omega)
  have hF := fForces_toInt H
  obtain ⟨h1, h2, h3, h4, h5⟩ := H
  refine Int32.toInt_inj.mp ?_
  rw [zL (by omega), hF, e]
  omega
/-- load and moment, one by one -/
def fLdN (R : Nat → Int32) : Nat → Int32
  | 0 => R 2
  | t + 1 => fLdN R t + R (8 + t)
def fMoN (R : Nat → Int32) : Nat → Int32
  | 0 => 5 * R 2
  | t + 1 => fMoN R t + R (8 + t) * R (11 + t)
theorem fLdN_all {R : Nat → Int32} {p : Nat} (h : rPp R p) : fLdN R p = fLoad R := by
  obtain ⟨h1, -, h3⟩ := h
  have z : ∀ t, t < 3 → p ≤ t → R (8 + t) = 0 := fun t ht hp => ((h3 t ht).2 hp).1
  unfold fLoad
  rcases (show p = 0 ∨ p = 1 ∨ p = 2 ∨ p = 3 by omega) with rfl | rfl | rfl | rfl
  · rw [show R 8 = 0 from z 0 (by omega) (by omega), show R 9 = 0 from z 1 (by omega) (by omega), show R 10 = 0 from z 2 (by omega) (by omega), Int32.add_zero, Int32.add_zero, Int32.add_zero]
    rfl
  · rw [show R 9 = 0 from z 1 (by omega) (by omega), show R 10 = 0 from z 2 (by omega) (by omega), Int32.add_zero, Int32.add_zero]
    rfl
  · rw [show R 10 = 0 from z 2 (by omega) (by omega), Int32.add_zero]
    rfl
  · rfl
theorem fMoN_all {R : Nat → Int32} {p : Nat} (h : rPp R p) : fMoN R p * R 0 = fMoment R := by
  obtain ⟨h1, -, h3⟩ := h
  have z : ∀ t, t < 3 → p ≤ t → R (8 + t) = 0 := fun t ht hp => ((h3 t ht).2 hp).1
  unfold fMoment
  rw [Int32.mul_comm, Int32.mul_comm (R 11), Int32.mul_comm (R 12), Int32.mul_comm (R 13)]
  congr 1
  rcases (show p = 0 ∨ p = 1 ∨ p = 2 ∨ p = 3 by omega) with rfl | rfl | rfl | rfl
  · rw [show R 8 = 0 from z 0 (by omega) (by omega), show R 9 = 0 from z 1 (by omega) (by omega), show R 10 = 0 from z 2 (by omega) (by omega), Int32.zero_mul, Int32.zero_mul, Int32.zero_mul, Int32.add_zero, Int32.add_zero, Int32.add_zero]
    rfl
  · rw [show R 9 = 0 from z 1 (by omega) (by omega), show R 10 = 0 from z 2 (by omega) (by omega), Int32.zero_mul, Int32.zero_mul, Int32.add_zero, Int32.add_zero]
    rfl
  · rw [show R 10 = 0 from z 2 (by omega) (by omega), Int32.zero_mul, Int32.add_zero]
    rfl
  · rfl
