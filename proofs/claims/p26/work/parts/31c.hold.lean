/-! the least and the greatest force -/
theorem zdiv_le {a x : Int} (ha : 0 ≤ a) (hx : 0 < x) : 0 ≤ a / x ∧ a / x ≤ a := by
  refine ⟨Int.ediv_nonneg ha (by omega), ?_⟩
  have := Int.ediv_le_self x ha
  exact this
theorem fGreat_toInt {R : Nat → Int32} {b h g w L M r : Int} (V : rV R b h g w L M r) : (fGreat R).toInt = w * M / (1000 * h + 10 * b * w) ∧ 0 ≤ w * M / (1000 * h + 10 * b * w) ∧ w * M / (1000 * h + 10 * b * w) ≤ 1000 := by
  obtain ⟨eb, eh, eg, ew, eL, eM, er, ⟨b1, b2⟩, ⟨h3, h4⟩, ⟨g1, g2⟩, ⟨w1, w2⟩, ⟨l1, l2⟩, ⟨m1, m3, m2⟩, ⟨r1, r2⟩⟩ := V
  have wm := zmb w1 w2 m1 m2
  have bw := zmb (show 0 ≤ 10 * b by omega) (show 10 * b ≤ 1000 by omega) w1 w2
  have eD : (1000 * R 1 + 10 * R 0 * fWP R).toInt = 1000 * h + 10 * b * w := zaI (zmI zc1000 eh (by omega) (by omega)) (zmI (zmI zc10 eb (by omega) (by omega)) ew (by omega) (by omega)) (by omega) (by omega)
  have eN : (fWP R * fMoment R).toInt = w * M := zmI ew eM (by omega) (by omega)
  unfold fGreat
  rw [if_neg (by rw [zleI eD zc0]; omega), fFD_toInt eN eD (by omega)]
  refine ⟨rfl, (zdiv_le wm.1 (by omega)).1, ?_⟩
  have : w * M / (1000 * h + 10 * b * w) < 1001 := by
    rw [Int.ediv_lt_iff_lt_mul (by omega)]
    omega
  omega
theorem fLBW_toInt {R : Nat → Int32} {b h g w L M r : Int} (V : rV R b h g w L M r) : ∃ lbw : Int, (fLBW R).toInt = lbw ∧ (R 4 = 3 → lbw = 0) ∧ (¬ R 4 = 3 → 0 < 1000 * h - 10 * b * w → lbw = -(w * M / (1000 * h - 10 * b * w))) ∧ (¬ R 4 = 3 → ¬ 0 < 1000 * h - 10 * b * w → lbw = -1000) ∧ -33000000 ≤ lbw ∧ lbw ≤ 0 := by
  obtain ⟨eb, eh, eg, ew, eL, eM, er, ⟨b1, b2⟩, ⟨h3, h4⟩, ⟨g1, g2⟩, ⟨w1, w2⟩, ⟨l1, l2⟩, ⟨m1, m3, m2⟩, ⟨r1, r2⟩⟩ := V
  have wm := zmb w1 w2 m1 m2
  have bw := zmb (show 0 ≤ 10 * b by omega) (show 10 * b ≤ 1000 by omega) w1 w2
  have eD : (1000 * R 1 - 10 * R 0 * fWP R).toInt = 1000 * h - 10 * b * w := zsI (zmI zc1000 eh (by omega) (by omega)) (zmI (zmI zc10 eb (by omega) (by omega)) ew (by omega) (by omega)) (by omega) (by omega)
  have eN : (fWP R * fMoment R).toInt = w * M := zmI ew eM (by omega) (by omega)
  by_cases hb : R 4 = 3
  · exact ⟨0, by unfold fLBW; rw [if_pos hb]; decide, fun _ => rfl, fun h => absurd hb h, fun h => absurd hb h, by omega, by omega⟩
  · by_cases hd : 0 < 1000 * h - 10 * b * w
    · have q := zdiv_le wm.1 hd
      refine ⟨-(w * M / (1000 * h - 10 * b * w)), ?_, fun h => absurd h hb, fun _ _ => rfl, fun _ h => absurd hd h, by omega, by omega⟩
      unfold fLBW
      rw [if_neg hb, if_neg (by rw [zleI eD zc0]; omega)]
      exact znI (fFD_toInt eN eD hd) (by omega) (by omega)
    · refine ⟨-1000, ?_, fun h => absurd h hb, fun _ h => absurd h hd, fun _ _ => rfl, by omega, by omega⟩
      unfold fLBW
      rw [if_neg hb, if_pos (by rw [zleI eD zc0]; omega)]
      decide
theorem fLBG_toInt {R : Nat → Int32} {b h g w L M r : Int} (V : rV R b h g w L M r) : ∃ lbg : Int, (fLBG R).toInt = lbg ∧ (10 * h * g - 1000 * b < 0 → lbg = -((10 * h * (g * L + 100 * r) - 100 * M) / (-(10 * h * g - 1000 * b)))) ∧ (¬ 10 * h * g - 1000 * b < 0 → lbg = -1000) ∧ -500000000 ≤ lbg ∧ lbg ≤ 500000000 := by
  obtain ⟨eb, eh, eg, ew, eL, eM, er, ⟨b1, b2⟩, ⟨h3, h4⟩, ⟨g1, g2⟩, ⟨w1, w2⟩, ⟨l1, l2⟩, ⟨m1, m3, m2⟩, ⟨r1, r2⟩⟩ := V
  have hg := zmb (show 0 ≤ 10 * h by omega) (show 10 * h ≤ 3000 by omega) (show 0 ≤ g by omega) g2
  have gl := zmb (show 0 ≤ g by omega) g2 (show 0 ≤ L by omega) l2
  have hr := zmb (show 0 ≤ 10 * h by omega) (show 10 * h ≤ 3000 by omega) (show 0 ≤ g * L + 100 * r by omega) (show g * L + 100 * r ≤ 53000 by omega)
  have eS : (fSlope R).toInt = 10 * h * g - 1000 * b := zsI (zmI (zmI zc10 eh (by omega) (by omega)) eg (by omega) (by omega)) (zmI zc1000 eb (by omega) (by omega)) (by omega) (by omega)
  have eR : (fRoom R).toInt = 10 * h * (g * L + 100 * r) - 100 * M := zsI (zmI (zmI zc10 eh (by omega) (by omega)) (zaI (zmI eg eL (by omega) (by omega)) (zmI zc100 er (by omega) (by omega)) (by omega) (by omega)) (by omega) (by omega)) (zmI zc100 eM (by omega) (by omega)) (by omega) (by omega)
  have hN : -55000000 ≤ 10 * h * (g * L + 100 * r) - 100 * M ∧ 10 * h * (g * L + 100 * r) - 100 * M ≤ 159000000 := by omega
  generalize 10 * h * (g * L + 100 * r) - 100 * M = N at *
  by_cases hs : 10 * h * g - 1000 * b < 0
  · have hsp : 0 < -(10 * h * g - 1000 * b) := by omega
    have q1 : N / -(10 * h * g - 1000 * b) ≤ 400000000 := by
      have : N / -(10 * h * g - 1000 * b) < 400000001 := by
        rw [Int.ediv_lt_iff_lt_mul hsp]
        have := Int.mul_le_mul_of_nonneg_left (show 1 ≤ -(10 * h * g - 1000 * b) by omega) (show (0:Int) ≤ 400000001 by omega)
        omega
      omega
    have q2 : -400000000 ≤ N / -(10 * h * g - 1000 * b) := by
      rw [Int.le_ediv_iff_mul_le hsp]
      have := Int.mul_le_mul_of_nonneg_left (show 1 ≤ -(10 * h * g - 1000 * b) by omega) (show (0:Int) ≤ 400000000 by omega)
      omega
    refine ⟨_, ?_, fun _ => rfl, fun h => absurd hs h, by omega, by omega⟩
    unfold fLBG
    rw [if_neg (by rw [zleI zc0 eS]; omega)]
    exact znI (fFD_toInt eR (znI eS (by omega) (by omega)) hsp) (by omega) (by omega)
  · refine ⟨-1000, ?_, fun h => absurd h hs, fun _ => rfl, by omega, by omega⟩
    unfold fLBG
    rw [if_pos (by rw [zleI zc0 eS]; omega)]
    decide
theorem fMax_toInt {x y : Int32} {a b : Int} (hx : x.toInt = a) (hy : y.toInt = b) : (fMax x y).toInt = max a b := by
  unfold fMax
  by_cases h : a < b
  · rw [if_pos ((zltI hx hy).mpr h), hy]; omega
  · rw [if_neg (fun q => h ((zltI hx hy).mp q)), hx]; omega
theorem fMin_toInt {x y : Int32} {a b : Int} (hx : x.toInt = a) (hy : y.toInt = b) : (fMin x y).toInt = min a b := by
  unfold fMin
  by_cases h : b < a
  · rw [if_pos ((zltI hy hx).mpr h), hy]; omega
  · rw [if_neg (fun q => h ((zltI hy hx).mp q)), hx]; omega
/-- the forces that hold are those from lo to hi -/
def rLH (R : Nat → Int32) (lo hi : Int) : Prop := (fLeast R).toInt = lo ∧ (fGreat R).toInt = hi ∧ (-1000 ≤ lo ∧ lo ≤ 500000000) ∧ (0 ≤ hi ∧ hi ≤ 1000) ∧ ∀ (f : Int32) (F : Int), f.toInt = F → -1000 ≤ F → F ≤ 1000 → (fWGW R f = 0 ↔ lo ≤ F ∧ F ≤ hi)
theorem rLH_of {R : Nat → Int32} {b h g w L M r : Int} (V : rV R b h g w L M r) : ∃ lo hi : Int, rLH R lo hi := by
  obtain ⟨lbw, a1, a2, a3, a4, a5, a6⟩ := fLBW_toInt V
  obtain ⟨lbg, c1, c2, c3, c4, c5⟩ := fLBG_toInt V
  obtain ⟨d1, d2, d3⟩ := fGreat_toInt V
  have e : (fLeast R).toInt = max (-1000) (max lbw lbg) := fMax_toInt (by decide) (fMax_toInt a1 c1)
  refine ⟨_, _, e, d1, ⟨by omega, by omega⟩, ⟨d2, d3⟩, fun f F hf h1 h2 => ?_⟩
  rw [fWGW_iff V hf h1 h2]
  obtain ⟨eb, eh, eg, ew, eL, eM, er, ⟨b1, b2⟩, ⟨h3, h4⟩, ⟨g1, g2⟩, ⟨w1, w2⟩, ⟨l1, l2⟩, ⟨m1, m3, m2⟩, ⟨r1, r2⟩⟩ := V
  rw [zHold_iff (lbw := lbw) (lbg := lbg) (by omega) (by omega) (by omega) w1 (by omega) m1 m3 r1 a2 a3 a4 c2 c3 h1]
  omega
theorem rLH_rig {R : Nat → Int32} {p : Nat} (h : rFd R) (hq : rQ R p) : ∃ lo hi : Int, rLH R lo hi := by
  obtain ⟨b, hh, g, w, L, M, r, V⟩ := rV_of h hq
  exact rLH_of V
theorem fForces_toInt {R : Nat → Int32} {lo hi : Int} (H : rLH R lo hi) : (fForces R).toInt = max 0 (hi - lo + 1) := by
  obtain ⟨h1, h2, h3, h4, -⟩ := H
  unfold fForces
  exact fMax_toInt zc0 (zaI (zsI h2 h1 (by omega) (by omega)) (by decide) (by omega) (by omega))
theorem fNearest_toInt {R : Nat → Int32} {lo hi : Int} (H : rLH R lo hi) : (fNearest R).toInt = max lo (min 0 hi) := by
  obtain ⟨h1, h2, h3, h4, -⟩ := H
  unfold fNearest
  exact fMax_toInt h1 (fMin_toInt zc0 h2)
