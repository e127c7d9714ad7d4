/-! the forces that hold, in whole numbers -/
theorem zi_mul_le {a b c : Int} (ha : 0 ≤ a) (h : b ≤ c) : a * b ≤ a * c := Int.mul_le_mul_of_nonneg_left h ha
/-- x * f <= y, by the quotient -/
theorem zi_le_div {x f y : Int} (hx : 0 < x) : f ≤ y / x ↔ x * f ≤ y := by
  rw [Int.le_ediv_iff_mul_le hx, Int.mul_comm]
/-- what holds with a force f: the document's four -/
def zHold (b h g w L M r f : Int) (bark : Prop) : Prop := 0 ≤ M - 10 * f * b ∧ (1000 * h * (if f < 0 then -f else f) ≤ w * (M - 10 * f * b) ∧ (bark → 0 ≤ f)) ∧ f ≤ L ∧ 100 * (M - 10 * f * b) ≤ 10 * h * (g * (L - f) + 100 * r)
theorem zHold_iff {b h g w L M r f lbw lbg : Int} {bark : Prop} (hb : 0 < b) (hh : 0 < h) (hg : 0 ≤ g) (hw : 0 ≤ w) (hL : 0 ≤ L) (hM : 0 ≤ M) (hML : M ≤ 10 * b * L) (hr : 0 ≤ r)
    (h1 : bark → lbw = 0) (h2 : ¬ bark → 0 < 1000 * h - 10 * b * w → lbw = -(w * M / (1000 * h - 10 * b * w))) (h3 : ¬ bark → ¬ 0 < 1000 * h - 10 * b * w → lbw = -1000)
    (h4 : 10 * h * g - 1000 * b < 0 → lbg = -((10 * h * (g * L + 100 * r) - 100 * M) / (-(10 * h * g - 1000 * b)))) (h5 : ¬ 10 * h * g - 1000 * b < 0 → lbg = -1000) (hf : -1000 ≤ f) :
    zHold b h g w L M r f bark ↔ (lbw ≤ f ∧ lbg ≤ f) ∧ f ≤ w * M / (1000 * h + 10 * b * w) := by
  have wM : 0 ≤ w * M := Int.mul_nonneg hw hM
  have bw : 0 ≤ b * w := Int.mul_nonneg (by omega) hw
  have e1 : 10 * b * w = 10 * (b * w) := by rw [Int.mul_assoc]
  have Dp : 0 < 1000 * h + 10 * b * w := by omega
  rw [zi_le_div Dp]
  have q0 : 0 ≤ w * M / (1000 * h + 10 * b * w) := Int.ediv_nonneg wM (by omega)
  -- the wall
  have wall : ((1000 * h * (if f < 0 then -f else f) ≤ w * (M - 10 * f * b) ∧ (bark → 0 ≤ f)) ↔ lbw ≤ f ∧ (1000 * h + 10 * b * w) * f ≤ w * M) := by
    have x1 : w * (M - 10 * f * b) = w * M - 10 * (b * w * f) := by
      rw [Int.mul_sub]
      congr 1
      rw [Int.mul_assoc, Int.mul_left_comm, Int.mul_comm f b, ← Int.mul_assoc w, Int.mul_comm w b]
    have x2 : (1000 * h + 10 * b * w) * f = 1000 * (h * f) + 10 * (b * w * f) := by
      rw [Int.add_mul, Int.mul_assoc, Int.mul_assoc, Int.mul_assoc, Int.mul_assoc b]
    rw [x1, x2]
    by_cases f0 : f < 0
    · rw [if_pos f0]
      have x3 : 1000 * h * -f = -(1000 * (h * f)) := by rw [Int.mul_neg, Int.mul_assoc]
      rw [x3]
      have hfn : h * f ≤ 0 := Int.mul_nonpos_of_nonneg_of_nonpos (by omega) (by omega)
      have bwf : b * w * f ≤ 0 := Int.mul_nonpos_of_nonneg_of_nonpos bw (by omega)
      by_cases hbk : bark
      · have := h1 hbk
        constructor
        · rintro ⟨-, h⟩; have := h hbk; omega
        · rintro ⟨h, -⟩; omega
      · by_cases hD : 0 < 1000 * h - 10 * b * w
        · have hl := h2 hbk hD
          have y1 : lbw ≤ f ↔ -f ≤ w * M / (1000 * h - 10 * b * w) := by omega
          rw [y1, zi_le_div hD]
          have y2 : (1000 * h - 10 * b * w) * -f = -(1000 * (h * f)) + 10 * (b * w * f) := by
            rw [Int.mul_neg, Int.sub_mul, Int.mul_assoc, Int.mul_assoc, Int.mul_assoc, Int.mul_assoc b]
            omega
          rw [y2]
          constructor
          · rintro ⟨h, -⟩; omega
          · rintro ⟨h, -⟩; exact ⟨by omega, fun h => absurd h hbk⟩
        · have hl := h3 hbk hD
          have y2 : (1000 * h - 10 * b * w) * f = 1000 * (h * f) - 10 * (b * w * f) := by
            rw [Int.sub_mul, Int.mul_assoc, Int.mul_assoc, Int.mul_assoc, Int.mul_assoc b]
          have y3 : 0 ≤ (1000 * h - 10 * b * w) * f := Int.mul_nonneg_of_nonpos_of_nonpos (by omega) (by omega)
          rw [y2] at y3
          constructor
          · rintro ⟨h, -⟩; omega
          · rintro ⟨h, -⟩; exact ⟨by omega, fun h => absurd h hbk⟩
    · rw [if_neg f0]
      have x3 : 1000 * h * f = 1000 * (h * f) := by rw [Int.mul_assoc]
      rw [x3]
      have hl : lbw ≤ 0 := by
        by_cases hbk : bark
        · have := h1 hbk; omega
        · by_cases hD : 0 < 1000 * h - 10 * b * w
          · have := h2 hbk hD
            have := Int.ediv_nonneg wM (show 0 ≤ 1000 * h - 10 * b * w by omega)
            omega
          · have := h3 hbk hD; omega
      constructor
      · rintro ⟨h, -⟩; omega
      · rintro ⟨h, h'⟩; exact ⟨by omega, fun _ => by omega⟩
  -- the ground
  have ground : (100 * (M - 10 * f * b) ≤ 10 * h * (g * (L - f) + 100 * r)) ↔ (10 * h * g - 1000 * b) * f ≤ 10 * h * (g * L + 100 * r) - 100 * M := by
    have x1 : 10 * h * (g * (L - f) + 100 * r) = 10 * h * (g * L + 100 * r) - 10 * h * g * f := by
      rw [show g * (L - f) + 100 * r = (g * L + 100 * r) - g * f by rw [Int.mul_sub]; omega, Int.mul_sub, Int.mul_assoc (10 * h) g f]
    have x2 : 100 * (M - 10 * f * b) = 100 * M - 1000 * b * f := by
      rw [Int.mul_sub, Int.mul_assoc 10, Int.mul_comm f b, Int.mul_assoc 1000]
      omega
    rw [x1, x2, Int.sub_mul]
    omega
  -- above the load nothing holds, below it all else does
  have small : (1000 * h + 10 * b * w) * f ≤ w * M → f ≤ L ∧ 0 ≤ M - 10 * f * b := by
    intro hq
    have x2 : (1000 * h + 10 * b * w) * f = 1000 * (h * f) + 10 * (b * w * f) := by
      rw [Int.add_mul, Int.mul_assoc, Int.mul_assoc, Int.mul_assoc, Int.mul_assoc b]
    have x4 : 10 * f * b = 10 * (b * f) := by rw [Int.mul_assoc, Int.mul_comm f b]
    by_cases f0 : f < 0
    · have : b * f ≤ 0 := Int.mul_nonpos_of_nonneg_of_nonpos (by omega) (by omega)
      exact ⟨by omega, by omega⟩
    · have hfp : 0 ≤ h * f := Int.mul_nonneg (by omega) (by omega)
      have push : 0 ≤ M - 10 * f * b := by
        rw [x4]
        rcases Int.lt_or_le 0 w with w0 | w0
        · have y : w * (10 * (b * f)) ≤ w * M := by
            have : w * (10 * (b * f)) = 10 * (b * w * f) := by
              rw [Int.mul_left_comm, ← Int.mul_assoc w, Int.mul_comm w b]
            omega
          have := Int.le_of_mul_le_mul_left y w0
          omega
        · have : w = 0 := by omega
          subst this
          have : h * f ≤ 0 := by
            have z : 0 * M = 0 := Int.zero_mul M
            have z2 : b * 0 * f = 0 := by rw [Int.mul_zero, Int.zero_mul]
            omega
          have hf0 : f = 0 := by
            rcases Int.lt_or_le 0 f with f1 | f1
            · have := Int.mul_pos hh f1; omega
            · omega
          subst hf0
          omega
      refine ⟨?_, push⟩
      have z1 : 10 * b * f ≤ 10 * b * L := by
        rw [Int.mul_assoc 10 b f]
        omega
      exact Int.le_of_mul_le_mul_left z1 (by omega)
  have steep : ¬ 10 * h * g - 1000 * b < 0 → f ≤ L → (10 * h * g - 1000 * b) * f ≤ 10 * h * (g * L + 100 * r) - 100 * M := by
    intro hS hfL
    have y1 := zi_mul_le (a := 10 * h * g - 1000 * b) (by omega) hfL
    have y2 : (10 * h * g - 1000 * b) * L = 10 * h * (g * L) - 1000 * (b * L) := by
      rw [Int.sub_mul, Int.mul_assoc (10 * h), Int.mul_assoc 1000]
    have y3 : 10 * h * (g * L + 100 * r) = 10 * h * (g * L) + 1000 * (h * r) := by
      rw [Int.mul_add]
      congr 1
      rw [Int.mul_assoc, Int.mul_left_comm h]
      omega
    have y4 : 10 * b * L = 10 * (b * L) := Int.mul_assoc ..
    have y5 : 0 ≤ h * r := Int.mul_nonneg (by omega) hr
    omega
  constructor
  · rintro ⟨p1, p2, p3, p4⟩
    obtain ⟨p5, p6⟩ := wall.mp p2
    refine ⟨⟨p5, ?_⟩, p6⟩
    by_cases hS : 10 * h * g - 1000 * b < 0
    · have hl := h4 hS
      have y1 : lbg ≤ f ↔ -f ≤ (10 * h * (g * L + 100 * r) - 100 * M) / (-(10 * h * g - 1000 * b)) := by omega
      rw [y1, zi_le_div (by omega), Int.neg_mul_neg]
      exact ground.mp p4
    · have := h5 hS; omega
  · rintro ⟨⟨p5, p5'⟩, p6⟩
    obtain ⟨s1, s2⟩ := small p6
    refine ⟨s2, wall.mpr ⟨p5, p6⟩, s1, ground.mpr ?_⟩
    by_cases hS : 10 * h * g - 1000 * b < 0
    · have hl := h4 hS
      have y1 : lbg ≤ f ↔ -f ≤ (10 * h * (g * L + 100 * r) - 100 * M) / (-(10 * h * g - 1000 * b)) := by omega
      rw [y1, zi_le_div (by omega), Int.neg_mul_neg] at p5'
      exact p5'
    · exact steep hS s1
