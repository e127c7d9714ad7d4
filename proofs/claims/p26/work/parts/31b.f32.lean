/-! the numbers of a rig, as whole numbers -/
theorem zmI {x y : Int32} {a b : Int} (hx : x.toInt = a) (hy : y.toInt = b) (h1 : -2147483648 ≤ a * b) (h2 : a * b < 2147483648) : (x * y).toInt = a * b := by
  rw [Int32.toInt_mul, hx, hy]
  exact Int.bmod_eq_of_le (by omega) (by omega)
theorem zaI {x y : Int32} {a b : Int} (hx : x.toInt = a) (hy : y.toInt = b) (h1 : -2147483648 ≤ a + b) (h2 : a + b < 2147483648) : (x + y).toInt = a + b := by
  rw [Int32.toInt_add, hx, hy]
  exact Int.bmod_eq_of_le (by omega) (by omega)
theorem zsI {x y : Int32} {a b : Int} (hx : x.toInt = a) (hy : y.toInt = b) (h1 : -2147483648 ≤ a - b) (h2 : a - b < 2147483648) : (x - y).toInt = a - b := by
  rw [Int32.toInt_sub, hx, hy]
  exact Int.bmod_eq_of_le (by omega) (by omega)
theorem znI {x : Int32} {a : Int} (hx : x.toInt = a) (h1 : -2147483648 < a) (h2 : a < 2147483648) : (-x).toInt = -a := by
  rw [Int32.toInt_neg, hx]
  exact Int.bmod_eq_of_le (by omega) (by omega)
theorem zmb {a b A B : Int} (h1 : 0 ≤ a) (h2 : a ≤ A) (h3 : 0 ≤ b) (h4 : b ≤ B) : 0 ≤ a * b ∧ a * b ≤ A * B :=
  ⟨Int.mul_nonneg h1 h3, Int.mul_le_mul h2 h4 h3 (by omega)⟩
theorem zleI {x y : Int32} {a b : Int} (hx : x.toInt = a) (hy : y.toInt = b) : x ≤ y ↔ a ≤ b := by
  rw [Int32.le_iff_toInt_le, hx, hy]
theorem zltI {x y : Int32} {a b : Int} (hx : x.toInt = a) (hy : y.toInt = b) : x < y ↔ a < b := by
  rw [Int32.lt_iff_toInt_lt, hx, hy]
theorem zeqI {x y : Int32} {a b : Int} (hx : x.toInt = a) (hy : y.toInt = b) : x = y ↔ a = b := by
  rw [← Int32.toInt_inj, hx, hy]
/-- floorDiv by a number above 0 -/
theorem fFD_toInt {x y : Int32} {a b : Int} (hx : x.toInt = a) (hy : y.toInt = b) (hb : 0 < b) : (fFD x y).toInt = a / b := by
  have hxr := x.le_toInt
  have hxr2 := x.toInt_lt
  have hyr2 := y.toInt_lt
  rw [hx] at hxr hxr2
  rw [hy] at hyr2
  have hdiv : (x / y).toInt = a.tdiv b := by
    rw [Int32.toInt_div_of_ne_right _ _ (fun h => by rw [h] at hy; have : (-1 : Int32).toInt = -1 := by decide
                                                     omega), hx, hy]
  have hsign : 0 ≤ x ^^^ y ↔ 0 ≤ a := by
    rw [zleI (show (0 : Int32).toInt = 0 by decide) rfl]
    have e1 : (x ^^^ y).toBitVec.msb = (x.toBitVec.msb ^^ y.toBitVec.msb) := by
      rw [Int32.toBitVec_xor, BitVec.msb_xor]
    have m1 : ∀ z : Int32, z.toBitVec.msb = decide (z.toInt < 0) := fun z => by
      rw [← Int32.toInt_toBitVec]; exact BitVec.msb_eq_toInt
    rw [m1, m1, m1, hx, hy, decide_eq_false (show ¬ b < 0 by omega), Bool.xor_false] at e1
    have := decide_eq_decide.mp e1
    omega
  unfold fFD
  by_cases h : 0 ≤ x ^^^ y
  · rw [if_pos h, hdiv, Int.tdiv_eq_ediv_of_nonneg (hsign.mp h)]
  · rw [if_neg h]
    have ha : a < 0 := by have := mt hsign.mpr h; omega
    have hd : a.tdiv b = a / b + if b ∣ a then 0 else 1 := by
      rw [Int.tdiv_eq_ediv]
      by_cases hv : b ∣ a
      · rw [if_pos (Or.inr hv), if_pos hv]
      · rw [if_neg (by intro z; rcases z with z | z; omega; exact hv z), if_neg hv, Int.sign_eq_one_of_pos hb]
    have hmul : (x / y * y = x) ↔ b ∣ a := by
      have hb1 : a.tdiv b * b = a ↔ b ∣ a := by
        constructor
        · intro e; exact ⟨a.tdiv b, by rw [Int.mul_comm]; exact e.symm⟩
        · intro hv; exact Int.tdiv_mul_cancel hv
      have hle : a ≤ a.tdiv b * b ∧ a.tdiv b * b ≤ 0 := by
        have e := Int.mul_ediv_add_emod a b
        have e1 := Int.emod_nonneg a (show b ≠ 0 by omega)
        have e2 := Int.emod_lt_of_pos a hb
        rw [Int.mul_comm] at e
        rw [hd]
        by_cases hv : b ∣ a
        · rw [if_pos hv, Int.add_zero, Int.ediv_mul_cancel hv]; omega
        · rw [if_neg hv, Int.add_mul, Int.one_mul]
          refine ⟨by omega, ?_⟩
          have q1 : a / b ≤ -1 := by
            have := Int.ediv_neg_of_neg_of_pos ha hb
            omega
          have := Int.mul_le_mul_of_nonneg_right (show a / b + 1 ≤ 0 by omega) (show 0 ≤ b by omega)
          rw [Int.add_mul, Int.one_mul, Int.zero_mul] at this
          exact this
      rw [zeqI (zmI hdiv hy (by omega) (by omega)) hx]
      exact hb1
    by_cases hv : b ∣ a
    · rw [if_pos (hmul.mpr hv), hdiv, hd, if_pos hv, Int.add_zero]
    · rw [if_neg (fun z => hv (hmul.mp z))]
      have hlo : -2147483648 ≤ a / b := by
        have := Int.mul_ediv_add_emod a b
        have e2 := Int.emod_lt_of_pos a hb
        have e1 := Int.emod_nonneg a (show b ≠ 0 by omega)
        have q : a ≤ a / b := by
          rw [Int.le_ediv_iff_mul_le hb]
          have := Int.mul_le_mul_of_nonpos_left (a := a) (show a ≤ 0 by omega) (show 1 ≤ b by omega)
          omega
        omega
      have h0 : a / b < 0 := Int.ediv_neg_of_neg_of_pos ha hb
      rw [zsI (x := x / y) (y := 1) hdiv (show (1 : Int32).toInt = 1 by decide) (by rw [hd, if_neg hv]; omega) (by rw [hd, if_neg hv]; omega), hd, if_neg hv]
      omega
/-! what a rig's numbers come to -/
theorem zL {n : Nat} (h : n < 2147483648) : (nI n).toInt = (n : Int) := nI_toInt (by omega)
theorem fGP_toInt {R : Nat → Int32} (h : rFd R) : 5 ≤ (fGP R).toInt ∧ (fGP R).toInt ≤ 60 ∧ fGP R = fGk (R 3) := by
  obtain ⟨-, -, -, ⟨h1, h2⟩, -⟩ := h
  obtain ⟨k, hk, e⟩ : ∃ k : Nat, k ≤ 3 ∧ R 3 = nI k := ⟨(R 3).toInt.toNat, by omega, Int32.toInt_inj.mp (by rw [zL (by omega)]; omega)⟩
  unfold fGP fGk
  rw [e]
  rcases (show k = 0 ∨ k = 1 ∨ k = 2 ∨ k = 3 by omega) with rfl | rfl | rfl | rfl <;> decide
theorem fWP_toInt {R : Nat → Int32} (h : rFd R) : 0 ≤ (fWP R).toInt ∧ (fWP R).toInt ≤ 60 ∧ fWP R = fWk (R 4) := by
  obtain ⟨-, -, -, -, ⟨h1, h2⟩, -⟩ := h
  obtain ⟨k, hk, e⟩ : ∃ k : Nat, k ≤ 3 ∧ R 4 = nI k := ⟨(R 4).toInt.toNat, by omega, Int32.toInt_inj.mp (by rw [zL (by omega)]; omega)⟩
  unfold fWP fWk
  rw [e]
  rcases (show k = 0 ∨ k = 1 ∨ k = 2 ∨ k = 3 by omega) with rfl | rfl | rfl | rfl <;> decide
/-- the numbers of a rig that may stand: base b, height h, percents g w, load L, moment M, rope r -/
def rV (R : Nat → Int32) (b h g w L M r : Int) : Prop := (R 0).toInt = b ∧ (R 1).toInt = h ∧ (fGP R).toInt = g ∧ (fWP R).toInt = w ∧ (fLoad R).toInt = L ∧ (fMoment R).toInt = M ∧ (R 5).toInt = r ∧ (10 ≤ b ∧ b ≤ 100) ∧ (50 ≤ h ∧ h ≤ 300) ∧ (5 ≤ g ∧ g ≤ 60) ∧ (0 ≤ w ∧ w ≤ 60) ∧ (1 ≤ L ∧ L ≤ 550) ∧ (0 ≤ M ∧ M ≤ 10 * b * L ∧ M ≤ 550000) ∧ (0 ≤ r ∧ r ≤ 200)
theorem rV_of {R : Nat → Int32} {p : Nat} (h : rFd R) (hq : rQ R p) : ∃ b h g w L M r : Int, rV R b h g w L M r := by
  obtain ⟨g1, g2, -⟩ := fGP_toInt h
  obtain ⟨w1, w2, -⟩ := fWP_toInt h
  obtain ⟨⟨b1, b2⟩, ⟨h1, h2⟩, ⟨x1, x2⟩, -, -, ⟨r1, r2⟩⟩ := h
  replace hq := hq.2
  obtain ⟨⟨u1, u2⟩, ⟨v1, v2⟩⟩ : (0 ≤ (R 8).toInt ∧ (R 8).toInt ≤ 150) ∧ (0 ≤ (R 11).toInt ∧ (R 11).toInt ≤ 10) := ⟨(hq 0 (by omega)).1, (hq 0 (by omega)).2.1⟩
  obtain ⟨⟨u3, u4⟩, ⟨v3, v4⟩⟩ : (0 ≤ (R 9).toInt ∧ (R 9).toInt ≤ 150) ∧ (0 ≤ (R 12).toInt ∧ (R 12).toInt ≤ 10) := ⟨(hq 1 (by omega)).1, (hq 1 (by omega)).2.1⟩
  obtain ⟨⟨u5, u6⟩, ⟨v5, v6⟩⟩ : (0 ≤ (R 10).toInt ∧ (R 10).toInt ≤ 150) ∧ (0 ≤ (R 13).toInt ∧ (R 13).toInt ≤ 10) := ⟨(hq 2 (by omega)).1, (hq 2 (by omega)).2.1⟩
  have eL : (fLoad R).toInt = (R 2).toInt + (R 8).toInt + (R 9).toInt + (R 10).toInt := by
    unfold fLoad
    exact zaI (zaI (zaI rfl rfl (by omega) (by omega)) rfl (by omega) (by omega)) rfl (by omega) (by omega)
  have m0 := zmb v1 v2 u1 u2
  have m1 := zmb v3 v4 u3 u4
  have m2 := zmb v5 v6 u5 u6
  have n0 : (R 11).toInt * (R 8).toInt ≤ 10 * (R 8).toInt := Int.mul_le_mul_of_nonneg_right v2 u1
  have n1 : (R 12).toInt * (R 9).toInt ≤ 10 * (R 9).toInt := Int.mul_le_mul_of_nonneg_right v4 u3
  have n2 : (R 13).toInt * (R 10).toInt ≤ 10 * (R 10).toInt := Int.mul_le_mul_of_nonneg_right v6 u5
  have eS : (5 * R 2 + R 11 * R 8 + R 12 * R 9 + R 13 * R 10).toInt = 5 * (R 2).toInt + (R 11).toInt * (R 8).toInt + (R 12).toInt * (R 9).toInt + (R 13).toInt * (R 10).toInt :=
    zaI (zaI (zaI (zmI (by decide) rfl (by omega) (by omega)) (zmI rfl rfl (by omega) (by omega)) (by omega) (by omega)) (zmI rfl rfl (by omega) (by omega)) (by omega) (by omega)) (zmI rfl rfl (by omega) (by omega)) (by omega) (by omega)
  generalize hS : 5 * (R 2).toInt + (R 11).toInt * (R 8).toInt + (R 12).toInt * (R 9).toInt + (R 13).toInt * (R 10).toInt = S at eS
  have s1 : 0 ≤ S ∧ S ≤ 5500 := by omega
  have s2 : S ≤ 10 * ((R 2).toInt + (R 8).toInt + (R 9).toInt + (R 10).toInt) := by omega
  have mb := zmb (show 0 ≤ (R 0).toInt by omega) b2 s1.1 s1.2
  have eM : (fMoment R).toInt = (R 0).toInt * S := by
    unfold fMoment
    exact zmI rfl eS (by omega) (by omega)
  have k1 := Int.mul_le_mul_of_nonneg_left s2 (show 0 ≤ (R 0).toInt by omega)
  have k2 : (R 0).toInt * (10 * ((R 2).toInt + (R 8).toInt + (R 9).toInt + (R 10).toInt)) = 10 * (R 0).toInt * ((R 2).toInt + (R 8).toInt + (R 9).toInt + (R 10).toInt) := by
    rw [Int.mul_left_comm, Int.mul_assoc]
  exact ⟨_, _, _, _, _, _, _, rfl, rfl, rfl, rfl, eL, eM, rfl, ⟨by omega, by omega⟩, ⟨by omega, by omega⟩, ⟨by omega, by omega⟩, ⟨by omega, by omega⟩, ⟨by omega, by omega⟩, ⟨by omega, by omega, by omega⟩, ⟨by omega, by omega⟩⟩
theorem zc10 : (10 : Int32).toInt = 10 := by decide
theorem zc100 : (100 : Int32).toInt = 100 := by decide
theorem zc1000 : (1000 : Int32).toInt = 1000 := by decide
theorem zc0 : (0 : Int32).toInt = 0 := by decide
/-- the push against the wall -/
theorem fPush_toInt {R : Nat → Int32} {b h g w L M r F : Int} {f : Int32} (V : rV R b h g w L M r) (hf : f.toInt = F) (h1 : -1000 ≤ F) (h2 : F ≤ 1000) : (fPush R f).toInt = M - 10 * F * b ∧ -1000000 ≤ 10 * F * b ∧ 10 * F * b ≤ 1000000 := by
  obtain ⟨eb, -, -, -, -, eM, -, ⟨b1, b2⟩, -, -, -, -, ⟨m1, -, m2⟩, -⟩ := V
  have k1 : 10 * F * b ≤ 1000000 := by
    have a := Int.mul_le_mul_of_nonneg_right (show 10 * F ≤ 10000 by omega) (show 0 ≤ b by omega)
    omega
  have k2 : -1000000 ≤ 10 * F * b := by
    have a := Int.mul_le_mul_of_nonneg_right (show -10000 ≤ 10 * F by omega) (show 0 ≤ b by omega)
    omega
  refine ⟨?_, k2, k1⟩
  unfold fPush
  exact zsI eM (zmI (zmI zc10 hf (by omega) (by omega)) eb (by omega) (by omega)) (by omega) (by omega)
theorem fAbs_toInt {f : Int32} {F : Int} (hf : f.toInt = F) (h1 : -1000 ≤ F) (h2 : F ≤ 1000) : (fAbs f).toInt = if F < 0 then -F else F := by
  unfold fAbs
  by_cases h : F < 0
  · rw [if_neg (by rw [zleI zc0 hf]; omega), if_pos h]
    have := zsI zc0 hf (by omega) (by omega)
    rw [this]; omega
  · rw [if_pos (by rw [zleI zc0 hf]; omega), if_neg h, hf]
/-- what gives way with f: nothing, where the document's four hold -/
theorem zlackW {R : Nat → Int32} {b h g w L M r F : Int} {f : Int32} (V : rV R b h g w L M r) (hf : f.toInt = F) (h1 : -1000 ≤ F) (h2 : F ≤ 1000) : (fWP R * fPush R f).toInt = w * (M - 10 * F * b) ∧ (1000 * R 1 * fAbs f).toInt = 1000 * h * (if F < 0 then -F else F) ∧ (100 * fPush R f).toInt = 100 * (M - 10 * F * b) ∧ (10 * R 1 * (fGP R * (fLoad R - f) + 100 * R 5)).toInt = 10 * h * (g * (L - F) + 100 * r) := by
  obtain ⟨p1, p2, p3⟩ := fPush_toInt V hf h1 h2
  have ea := fAbs_toInt hf h1 h2
  obtain ⟨eb, eh, eg, ew, eL, eM, er, ⟨b1, b2⟩, ⟨h3, h4⟩, ⟨g1, g2⟩, ⟨w1, w2⟩, ⟨l1, l2⟩, ⟨m1, m3, m2⟩, ⟨r1, r2⟩⟩ := V
  generalize hP : M - 10 * F * b = P at p1
  have hP1 : -1000000 ≤ P := by omega
  have hP2 : P ≤ 1550000 := by omega
  have w3 : w * P ≤ 93000000 := by
    have a := Int.mul_le_mul_of_nonneg_left hP2 w1
    have a2 := Int.mul_le_mul_of_nonneg_right w2 (show (0:Int) ≤ 1550000 by omega)
    omega
  have w4 : -93000000 ≤ w * P := by
    have a := Int.mul_le_mul_of_nonneg_left (show -1550000 ≤ P by omega) w1
    have a2 := Int.mul_le_mul_of_nonneg_right w2 (show (0:Int) ≤ 1550000 by omega)
    omega
  generalize hA : (if F < 0 then -F else F) = A at ea
  have hA1 : 0 ≤ A ∧ A ≤ 1000 := by
    rw [← hA]; split <;> omega
  have x1 := zmb (show 0 ≤ 1000 * h by omega) (show 1000 * h ≤ 300000 by omega) hA1.1 hA1.2
  have y1 : g * (L - F) ≤ 93000 := by
    have a := Int.mul_le_mul_of_nonneg_left (show L - F ≤ 1550 by omega) (show 0 ≤ g by omega)
    have a2 := Int.mul_le_mul_of_nonneg_right g2 (show (0:Int) ≤ 1550 by omega)
    omega
  have y2 : -93000 ≤ g * (L - F) := by
    have a := Int.mul_le_mul_of_nonneg_left (show -1550 ≤ L - F by omega) (show 0 ≤ g by omega)
    have a2 := Int.mul_le_mul_of_nonneg_right g2 (show (0:Int) ≤ 1550 by omega)
    omega
  generalize hG : g * (L - F) = G at y1 y2
  have z1 : 10 * h * (G + 100 * r) ≤ 3000 * 113000 := by
    have a := Int.mul_le_mul_of_nonneg_left (show G + 100 * r ≤ 113000 by omega) (show 0 ≤ 10 * h by omega)
    have a2 := Int.mul_le_mul_of_nonneg_right (show 10 * h ≤ 3000 by omega) (show (0:Int) ≤ 113000 by omega)
    omega
  have z2 : -(3000 * 113000) ≤ 10 * h * (G + 100 * r) := by
    have a := Int.mul_le_mul_of_nonneg_left (show -113000 ≤ G + 100 * r by omega) (show 0 ≤ 10 * h by omega)
    have a2 := Int.mul_le_mul_of_nonneg_right (show 10 * h ≤ 3000 by omega) (show (0:Int) ≤ 113000 by omega)
    omega
  refine ⟨zmI ew p1 (by omega) (by omega), zmI (zmI zc1000 eh (by omega) (by omega)) ea (by omega) (by omega), zmI zc100 p1 (by omega) (by omega), ?_⟩
  refine zmI (zmI zc10 eh (by omega) (by omega)) (zaI ?_ (zmI zc100 er (by omega) (by omega)) (by omega) (by omega)) (by omega) (by omega)
  rw [← hG]
  exact zmI eg (zsI eL hf (by omega) (by omega)) (by omega) (by omega)
theorem fWGW_iff {R : Nat → Int32} {b h g w L M r F : Int} {f : Int32} (V : rV R b h g w L M r) (hf : f.toInt = F) (h1 : -1000 ≤ F) (h2 : F ≤ 1000) : fWGW R f = 0 ↔ zHold b h g w L M r F (R 4 = 3) := by
  obtain ⟨k1, k2, k3, k4⟩ := zlackW V hf h1 h2
  obtain ⟨p1, -, -⟩ := fPush_toInt V hf h1 h2
  have eL := V.2.2.2.2.1
  unfold fWGW fWGW3 fWGW2 fWGW1 zHold
  have hw : fWallBad R f = true ↔ ¬ (1000 * h * (if F < 0 then -F else F) ≤ w * (M - 10 * F * b) ∧ (R 4 = 3 → 0 ≤ F)) := by
    unfold fWallBad
    rw [Bool.or_eq_true, Bool.and_eq_true, decide_eq_true_iff, decide_eq_true_iff, decide_eq_true_iff, zltI k1 k2, zltI hf zc0]
    by_cases q : R 4 = 3
    · simp only [q, true_and, forall_const]; omega
    · simp only [q, false_and, or_false, false_implies, and_true]; omega
  have hw2 : (1000 * h * (if F < 0 then -F else F) ≤ w * (M - 10 * F * b) ∧ (R 4 = 3 → 0 ≤ F)) ↔ ¬ fWallBad R f = true := by
    rw [hw]; exact Decidable.not_not.symm
  rw [hw2, ← zleI zc0 p1, ← zleI k3 k4, ← zleI hf eL]
  by_cases a1 : 0 ≤ fPush R f <;> by_cases a2 : fWallBad R f = true <;> by_cases a3 : f ≤ fLoad R <;> by_cases a4 : 100 * fPush R f ≤ 10 * R 1 * (fGP R * (fLoad R - f) + 100 * R 5) <;> simp only [a1, a2, a3, a4, if_true, if_false, not_true, not_false_iff, and_true, true_and, and_false, false_and, Bool.false_eq_true, eq_self] <;> decide
