/-! doubles: quotients of whole numbers, doubled -/
theorem zq_enc {c : Nat} {q : Int} (h1 : 4503599627370496 ≤ c) : FP.Core.encode FP.Core.b64 (.fin false c q) = ((q + 1074).toNat + 1) * 4503599627370496 + (c - 4503599627370496) := by
  have t : FP.Core.b64.tails = 4503599627370496 := by decide
  have qm : FP.Core.b64.qmin = -1074 := by decide
  simp only [FP.Core.encode, FP.Core.assemble]
  rw [t, qm, if_neg (by omega)]
  simp only [Bool.toNat_false, Nat.zero_mul, Nat.zero_add]
  rw [show q - -1074 = q + 1074 by omega]
theorem zq_dec {c : Nat} {q : Int} (h1 : 4503599627370496 ≤ c) (h2 : c < 9007199254740992) (h3 : -1074 ≤ q) (h4 : q ≤ 971) : FP.Core.decode FP.Core.b64 (((q + 1074).toNat + 1) * 4503599627370496 + (c - 4503599627370496)) = .fin false c q := by
  have t : FP.Core.b64.tails = 4503599627370496 := by decide
  have qm : FP.Core.b64.qmin = -1074 := by decide
  have ex : FP.Core.b64.exps = 2048 := by decide
  unfold FP.Core.decode FP.Core.fieldE FP.Core.fieldT FP.Core.fieldS
  rw [t, qm, ex]
  have hk : (q + 1074).toNat ≤ 2045 := by omega
  have hk2 : ((q + 1074).toNat : Int) = q + 1074 := by omega
  generalize (q + 1074).toNat = k at hk hk2
  have a1 : ((k + 1) * 4503599627370496 + (c - 4503599627370496)) / 4503599627370496 = k + 1 := by omega
  have a2 : ((k + 1) * 4503599627370496 + (c - 4503599627370496)) % 4503599627370496 = c - 4503599627370496 := by omega
  rw [a1, a2]
  have a4 : (k + 1) % 2048 = k + 1 := by omega
  rw [a4, if_neg (by omega), if_neg (by omega)]
  have a3 : ((k + 1) / 2048 % 2 == 1) = false := by
    rw [show (k + 1) / 2048 = 0 by omega]; rfl
  rw [a3]
  have b1 : 4503599627370496 + (c - 4503599627370496) = c := by omega
  have b2 : -1074 + (((k + 1 : Nat) : Int) - 1) = q := by omega
  rw [b1, b2]
/-- x is the normal number c * 2^q -/
def zN (x : UInt64) (c : Nat) (q : Int) : Prop := 4503599627370496 ≤ c ∧ c < 9007199254740992 ∧ -1074 ≤ q ∧ q ≤ 971 ∧ x.toNat = ((q + 1074).toNat + 1) * 4503599627370496 + (c - 4503599627370496)
theorem zN.dec {x : UInt64} {c : Nat} {q : Int} (h : zN x c q) : FP.Core.decode FP.Core.b64 x.toNat = .fin false c q := by
  obtain ⟨h1, h2, h3, h4, h5⟩ := h
  rw [h5]; exact zq_dec h1 h2 h3 h4
theorem zN_of {c : Nat} {q : Int} (h1 : 4503599627370496 ≤ c) (h2 : c < 9007199254740992) (h3 : -1074 ≤ q) (h4 : q ≤ 971) : zN (.ofNat (FP.Core.encode FP.Core.b64 (.fin false c q))) c q := by
  refine ⟨h1, h2, h3, h4, ?_⟩
  rw [zq_enc h1, UInt64.toNat_ofNat']
  have hk : (q + 1074).toNat ≤ 2045 := by omega
  generalize (q + 1074).toNat = k at hk
  apply Nat.mod_eq_of_lt
  omega
theorem zN.n64 {x : UInt64} {c : Nat} {q : Int} (h : zN x c q) : x &&& 0x7fffffffffffffff ≤ 0x7ff0000000000000 := by
  obtain ⟨h1, h2, h3, h4, h5⟩ := h
  rw [UInt64.le_iff_toNat_le, UInt64.toNat_and]
  have e1 : (0x7fffffffffffffff : UInt64).toNat = 2 ^ 63 - 1 := by decide
  have e2 : (0x7ff0000000000000 : UInt64).toNat = 9218868437227405312 := by decide
  rw [e1, e2, Nat.and_two_pow_sub_one_eq_mod, h5]
  have hk : (q + 1074).toNat ≤ 2045 := by omega
  generalize (q + 1074).toNat = k at hk
  have : ((k + 1) * 4503599627370496 + (c - 4503599627370496)) % 2 ^ 63 ≤ (k + 1) * 4503599627370496 + (c - 4503599627370496) := Nat.mod_le _ _
  omega
/-- a ratio of two significands, rounded -/
theorem zq_nearest_exact (c B : Nat) (hB : 0 < B) : FP.Core.nearest (c * B) B = c := by
  unfold FP.Core.nearest
  rw [Nat.mul_mod_left, if_pos (by omega), Nat.mul_div_cancel _ hB]
theorem zq_log {c k : Nat} (h1 : 2 ^ k ≤ c) (h2 : c < 2 ^ (k + 1)) : c.log2 = k := by
  have h0 : c ≠ 0 := by have := Nat.two_pow_pos k; omega
  have a := (Nat.le_log2 h0 (k := k)).mpr h1
  have b := (Nat.log2_lt h0 (k := k + 1)).mpr h2
  omega
/-- a whole number of 1 to 53 digits times a power of two is rounded to itself -/
theorem zq_round1 {n L : Nat} {e : Int} (h1 : 2 ^ L ≤ n) (h2 : n < 2 ^ (L + 1)) (hL : L ≤ 52) (he : -1000 ≤ e) (he2 : e ≤ 900) : FP.Core.roundRatio FP.Core.b64 false n 1 e = .fin false (n * 2 ^ (52 - L)) (e - (52 - L : Nat)) := by
  have qm : FP.Core.b64.qmin = -1074 := by decide
  have qx : FP.Core.b64.qmax = 971 := by decide
  have hp : FP.Core.b64.p = 53 := rfl
  have h0 : n ≠ 0 := by have := Nat.two_pow_pos L; omega
  have hl : FP.Core.leading n 1 = (L : Int) := by
    unfold FP.Core.leading
    rw [zq_log h1 h2, show Nat.log2 1 = 0 by decide]
    have u1 : ((L : Int) - ((0 : Nat) : Int)).toNat = L := by omega
    have u2 : (-((L : Int) - ((0 : Nat) : Int))).toNat = 0 := by omega
    dsimp only
    rw [u1, u2, if_pos (by omega)]
    omega
  unfold FP.Core.roundRatio
  rw [if_neg h0]
  have hq : FP.Core.quantum FP.Core.b64 n 1 e = e - (52 - L : Nat) := by
    unfold FP.Core.quantum
    rw [hl, qm, hp]
    omega
  rw [hq]
  unfold FP.Core.roundAt FP.Core.unitsNum FP.Core.unitsDen
  have t1 : (e - (e - ((52 - L : Nat) : Int))).toNat = 52 - L := by omega
  have t2 : (e - ((52 - L : Nat) : Int) - e).toNat = 0 := by omega
  rw [t1, t2]
  have t3 : FP.Core.nearest (n * 2 ^ (52 - L)) (1 * 2 ^ 0) = n * 2 ^ (52 - L) := by
    have := zq_nearest_exact (n * 2 ^ (52 - L)) 1 (by omega)
    rw [Nat.mul_one] at this
    exact this
  rw [t3]
  unfold FP.Core.settle
  have t4 : n * 2 ^ (52 - L) < 2 ^ 53 := by
    calc n * 2 ^ (52 - L) < 2 ^ (L + 1) * 2 ^ (52 - L) := Nat.mul_lt_mul_of_pos_right h2 (Nat.two_pow_pos _)
      _ = 2 ^ 53 := by rw [← Nat.pow_add]; congr 1; omega
  rw [hp, if_pos t4]
  unfold FP.Core.bound
  rw [if_pos (by rw [qx]; omega)]
theorem zq_size {n L : Nat} (h1 : 2 ^ L ≤ n) (h2 : n < 2 ^ (L + 1)) (hL : L ≤ 52) : 4503599627370496 ≤ n * 2 ^ (52 - L) ∧ n * 2 ^ (52 - L) < 9007199254740992 := by
  constructor
  · calc 4503599627370496 = 2 ^ L * 2 ^ (52 - L) := by rw [← Nat.pow_add, show L + (52 - L) = 52 by omega]
      _ ≤ n * 2 ^ (52 - L) := Nat.mul_le_mul_right _ h1
  · calc n * 2 ^ (52 - L) < 2 ^ (L + 1) * 2 ^ (52 - L) := Nat.mul_lt_mul_of_pos_right h2 (Nat.two_pow_pos _)
      _ = 9007199254740992 := by rw [← Nat.pow_add, show L + 1 + (52 - L) = 53 by omega]
/-- an int as a double -/
theorem zq_i2d {a : Int32} {n L : Nat} (ha : a.toInt = n) (h1 : 2 ^ L ≤ n) (h2 : n < 2 ^ (L + 1)) (hL : L ≤ 52) : zN (FP.i2d a) (n * 2 ^ (52 - L)) (-((52 - L : Nat) : Int)) := by
  have e : FP.i2d a = .ofNat (FP.Core.encode FP.Core.b64 (.fin false (n * 2 ^ (52 - L)) (-((52 - L : Nat) : Int)))) := by
    show UInt64.ofNat (FP.Core.fromInt FP.Core.b64 a.toInt) = _
    unfold FP.Core.fromInt FP.Core.ofInt FP.Core.round
    rw [ha, show decide ((n : Int) < 0) = false by simp, show (n : Int).natAbs = n by omega]
    simp only []
    rw [zq_round1 h1 h2 hL (by omega) (by omega), Int.zero_sub]
  rw [e]
  exact zN_of (zq_size h1 h2 hL).1 (zq_size h1 h2 hL).2 (by omega) (by omega)

/-- a quotient of normal numbers: normal, and at most 1 where that is so -/
theorem zq_div {x y : UInt64} {c d : Nat} {q r : Int} (hx : zN x c q) (hy : zN y d r) (hq : -60 ≤ q ∧ q ≤ 60) (hr : -60 ≤ r ∧ r ≤ 60) : ∃ c' q', zN (FP.ddiv x y) c' q' ∧ q - r - 53 ≤ q' ∧ (q < r ∨ q = r ∧ c ≤ d → q' ≤ -52) := by
  have qm : FP.Core.b64.qmin = -1074 := by decide
  have qx : FP.Core.b64.qmax = 971 := by decide
  have hp : FP.Core.b64.p = 53 := rfl
  have tl : FP.Core.b64.tails = 4503599627370496 := by decide
  have hd := hx.dec
  have hd2 := hy.dec
  obtain ⟨a1, a2, a3, a4, -⟩ := hx
  obtain ⟨b1, b2, b3, b4, -⟩ := hy
  have lc : c.log2 = 52 := zq_log (k := 52) a1 a2
  have ld : d.log2 = 52 := zq_log (k := 52) b1 b2
  have hl : FP.Core.leading c d = if d ≤ c then 0 else -1 := by
    unfold FP.Core.leading
    rw [lc, ld]
    dsimp only
    rw [show (((52 : Nat) : Int) - ((52 : Nat) : Int)) = 0 by omega]
    rw [show (0 : Int).toNat = 0 from rfl, show (-(0 : Int)).toNat = 0 from rfl, Nat.pow_zero, Nat.mul_one, Nat.mul_one]
    rfl
  have e : FP.ddiv x y = .ofNat (FP.Core.encode FP.Core.b64 (FP.Core.roundRatio FP.Core.b64 false c d (q - r))) := by
    show UInt64.ofNat (FP.Core.div FP.Core.b64 x.toNat y.toNat) = _
    unfold FP.Core.div
    rw [hd, hd2]
    simp only [FP.Core.quotient]
    rw [if_neg (show ¬ d = 0 by omega)]
    rfl
  rw [e]
  unfold FP.Core.roundRatio
  rw [if_neg (show ¬ c = 0 by omega)]
  -- the quantum, and the units
  have key : ∃ N Q, FP.Core.roundAt FP.Core.b64 false c d (q - r) (FP.Core.quantum FP.Core.b64 c d (q - r)) = FP.Core.settle FP.Core.b64 false N Q ∧ 4503599627370496 ≤ N ∧ N ≤ 9007199254740992 ∧ q - r - 53 ≤ Q ∧ Q ≤ q - r - 52 ∧ (c < d → Q = q - r - 53) ∧ (c = d → N < 9007199254740992) := by
    refine ⟨_, _, rfl, ?_⟩
    have hqu : FP.Core.quantum FP.Core.b64 c d (q - r) = if d ≤ c then q - r - 52 else q - r - 53 := by
      unfold FP.Core.quantum
      rw [hl, qm, hp]
      split <;> omega
    rw [hqu]
    unfold FP.Core.unitsNum FP.Core.unitsDen FP.Core.nearest
    by_cases hcd : d ≤ c
    · rw [if_pos hcd, show (q - r - (q - r - 52)).toNat = 52 by omega, show (q - r - 52 - (q - r)).toNat = 0 by omega, Nat.pow_zero, Nat.mul_one]
      have v1 : 4503599627370496 ≤ c * 2 ^ 52 / d := (Nat.le_div_iff_mul_le (by omega)).mpr (by omega)
      have v2 : c * 2 ^ 52 / d < 9007199254740992 := (Nat.div_lt_iff_lt_mul (by omega)).mpr (by omega)
      generalize c * 2 ^ 52 / d = N at v1 v2
      refine ⟨?_, ?_, by omega, by omega, fun h => by omega, fun h => ?_⟩
      · split
        · omega
        · split <;> omega
      · split
        · omega
        · split <;> omega
      · subst h
        rw [Nat.mul_comm c, Nat.mul_mod_left, if_pos (by omega)]
        omega
    · rw [if_neg hcd, show (q - r - (q - r - 53)).toNat = 53 by omega, show (q - r - 53 - (q - r)).toNat = 0 by omega, Nat.pow_zero, Nat.mul_one]
      have v1 : 4503599627370496 ≤ c * 2 ^ 53 / d := (Nat.le_div_iff_mul_le (by omega)).mpr (by omega)
      have v2 : c * 2 ^ 53 / d < 9007199254740992 := (Nat.div_lt_iff_lt_mul (by omega)).mpr (by omega)
      generalize c * 2 ^ 53 / d = N at v1 v2
      refine ⟨?_, ?_, by omega, by omega, fun h => by omega, fun h => by omega⟩
      · split
        · omega
        · split <;> omega
      · split
        · omega
        · split <;> omega
  obtain ⟨N, Q, k1, k2, k3, k4, k5, k6, k7⟩ := key
  rw [k1]
  unfold FP.Core.settle FP.Core.bound
  rw [hp, tl]
  by_cases hN : N < 2 ^ 53
  · rw [if_pos hN, if_pos (by rw [qx]; omega)]
    refine ⟨N, Q, zN_of k2 hN (by omega) (by omega), by omega, fun h => ?_⟩
    omega
  · rw [if_neg hN, if_pos (by rw [qx]; omega)]
    refine ⟨4503599627370496, Q + 1, zN_of (by omega) (by omega) (by omega) (by omega), by omega, fun h => ?_⟩
    omega
/-- times a power of two -/
theorem zq_mul {x y : UInt64} {c : Nat} {q r : Int} (hx : zN x c q) (hy : zN y 4503599627370496 r) (hq : -400 ≤ q ∧ q ≤ 400) (hr : -400 ≤ r ∧ r ≤ 400) : zN (FP.dmul x y) c (q + r + 52) := by
  have qm : FP.Core.b64.qmin = -1074 := by decide
  have qx : FP.Core.b64.qmax = 971 := by decide
  have hp : FP.Core.b64.p = 53 := rfl
  have hd := hx.dec
  have hd2 := hy.dec
  obtain ⟨a1, a2, a3, a4, -⟩ := hx
  have g1 : 2 ^ 104 ≤ c * 4503599627370496 := by omega
  have g2 : c * 4503599627370496 < 2 ^ 105 := by omega
  have hl : FP.Core.leading (c * 4503599627370496) 1 = 104 := by
    unfold FP.Core.leading
    rw [zq_log (k := 104) g1 g2, show Nat.log2 1 = 0 by decide]
    dsimp only
    rw [show (((104 : Nat) : Int) - ((0 : Nat) : Int)).toNat = 104 by omega, show (-(((104 : Nat) : Int) - ((0 : Nat) : Int))).toNat = 0 by omega, if_pos (by omega)]
    rfl
  have e : FP.dmul x y = .ofNat (FP.Core.encode FP.Core.b64 (.fin false c (q + r + 52))) := by
    show UInt64.ofNat (FP.Core.mul FP.Core.b64 x.toNat y.toNat) = _
    unfold FP.Core.mul
    rw [hd, hd2]
    simp only [FP.Core.exactProduct, FP.Core.round]
    unfold FP.Core.roundRatio
    rw [if_neg (show ¬ c * 4503599627370496 = 0 by omega)]
    have hqu : FP.Core.quantum FP.Core.b64 (c * 4503599627370496) 1 (q + r) = q + r + 52 := by
      unfold FP.Core.quantum
      rw [hl, qm, hp]
      omega
    rw [hqu]
    unfold FP.Core.roundAt FP.Core.unitsNum FP.Core.unitsDen
    rw [show (q + r - (q + r + 52)).toNat = 0 by omega, show (q + r + 52 - (q + r)).toNat = 52 by omega, Nat.pow_zero, Nat.mul_one, Nat.one_mul]
    rw [show (2 : Nat) ^ 52 = 4503599627370496 from rfl, zq_nearest_exact c _ (by omega)]
    unfold FP.Core.settle FP.Core.bound
    rw [hp, if_pos a2, if_pos (by rw [qx]; omega)]
    rfl
  rw [e]
  exact zN_of a1 a2 (by omega) (by omega)
theorem zN_one : zN 4607182418800017408 4503599627370496 (-52) := ⟨by decide, by decide, by decide, by decide, by decide⟩
theorem zN_two : zN 4611686018427387904 4503599627370496 (-51) := ⟨by decide, by decide, by decide, by decide, by decide⟩
theorem zN_p52 : zN 4841369599423283200 4503599627370496 0 := ⟨by decide, by decide, by decide, by decide, by decide⟩
theorem zq_dec0 : FP.Core.decode FP.Core.b64 (0 : UInt64).toNat = .fin false 0 (-1074) := by decide +kernel
theorem zq_enc0 : UInt64.ofNat (FP.Core.encode FP.Core.b64 (.fin false 0 (-1074))) = 0 := by decide +kernel
theorem zq_qmin : FP.Core.b64.qmin = -1074 := by decide
/-- 0 divided by a normal number -/
theorem zq_div0 {y : UInt64} {d : Nat} {r : Int} (hy : zN y d r) : FP.ddiv 0 y = 0 := by
  show UInt64.ofNat (FP.Core.div FP.Core.b64 (0 : UInt64).toNat y.toNat) = _
  unfold FP.Core.div
  rw [zq_dec0, hy.dec]
  simp only [FP.Core.quotient]
  rw [if_neg (show ¬ d = 0 by have := hy.1; omega)]
  unfold FP.Core.roundRatio
  rw [if_pos rfl, zq_qmin]
  exact zq_enc0
theorem zq_mul0 {y : UInt64} {d : Nat} {r : Int} (hy : zN y d r) : FP.dmul 0 y = 0 := by
  show UInt64.ofNat (FP.Core.mul FP.Core.b64 (0 : UInt64).toNat y.toNat) = _
  unfold FP.Core.mul
  rw [zq_dec0, hy.dec]
  simp only [FP.Core.exactProduct, FP.Core.round]
  unfold FP.Core.roundRatio
  rw [if_pos (Nat.zero_mul d), zq_qmin]
  exact zq_enc0
theorem zq_i2d0 : FP.i2d 0 = 0 := by decide +kernel
/-- the order of a normal number and 0, and 1 -/
theorem zq_cmp0 {x : UInt64} {c : Nat} {q : Int} (h : zN x c q) : FP.dcmp x 0 = some .gt := by
  show FP.Core.order (FP.Core.decode FP.Core.b64 x.toNat) (FP.Core.decode FP.Core.b64 (0 : UInt64).toNat) = _
  rw [h.dec, zq_dec0]
  simp only [FP.Core.order, FP.Core.signed, FP.Core.inUnits]
  obtain ⟨h1, -, -, -, -⟩ := h
  have p := Nat.two_pow_pos (q - min q (-1074)).toNat
  have : 0 < c * 2 ^ (q - min q (-1074)).toNat := Nat.mul_pos (by omega) p
  generalize c * 2 ^ (q - min q (-1074)).toNat = k at this
  simp only [Bool.false_eq_true, if_false, Nat.zero_mul]
  rw [Option.some.injEq]
  exact Std.compare_eq_gt.mpr (by omega)
theorem zq_cmp1 {x : UInt64} {c : Nat} {q : Int} (h : zN x c q) (hq : q ≤ -53) (hq2 : -400 ≤ q) : FP.dcmp x 4607182418800017408 = some .lt := by
  show FP.Core.order (FP.Core.decode FP.Core.b64 x.toNat) (FP.Core.decode FP.Core.b64 (4607182418800017408 : UInt64).toNat) = _
  rw [h.dec, zN_one.dec]
  simp only [FP.Core.order, FP.Core.signed, FP.Core.inUnits]
  obtain ⟨h1, h2, -, -, -⟩ := h
  rw [show (q - min q (-52)).toNat = 0 by omega, Nat.pow_zero, Nat.mul_one]
  have p : 2 ^ 1 ≤ 2 ^ (-52 - min q (-52)).toNat := Nat.pow_le_pow_right (by omega) (by omega)
  have : c < 4503599627370496 * 2 ^ (-52 - min q (-52)).toNat := by omega
  generalize 4503599627370496 * 2 ^ (-52 - min q (-52)).toNat = k at this
  simp only [Bool.false_eq_true, if_false]
  rw [Option.some.injEq]
  exact Std.compare_eq_lt.mpr (by omega)
theorem zq_cmp1' {x : UInt64} {c : Nat} (h : zN x c (-52)) : FP.dcmp x 4607182418800017408 = some .eq ∨ FP.dcmp x 4607182418800017408 = some .gt := by
  have e : FP.dcmp x 4607182418800017408 = some (compare (c : Int) (4503599627370496 : Nat)) := by
    show FP.Core.order (FP.Core.decode FP.Core.b64 x.toNat) (FP.Core.decode FP.Core.b64 (4607182418800017408 : UInt64).toNat) = _
    rw [h.dec, zN_one.dec]
    simp only [FP.Core.order, FP.Core.signed, FP.Core.inUnits]
    rw [show ((-52 : Int) - min (-52) (-52)).toNat = 0 by omega, Nat.pow_zero, Nat.mul_one, Nat.mul_one]
    rfl
  obtain ⟨h1, -, -, -, -⟩ := h
  rw [e]
  rcases Nat.lt_or_ge 4503599627370496 c with g | g
  · exact Or.inr (congrArg some (Std.compare_eq_gt.mpr (by omega)))
  · have hc : c = 4503599627370496 := by omega
    refine Or.inl ?_
    rw [hc]; decide
theorem zq_cmp00 : FP.dcmp 0 0 = some .eq := by decide +kernel
/-- 1 to 2, less 1 -/
theorem zq_sub1 {x : UInt64} {c : Nat} (h : zN x c (-52)) : FP.dsub x 4607182418800017408 = 0 ∨ ∃ c' q', zN (FP.dsub x 4607182418800017408) c' q' ∧ -200 ≤ q' ∧ q' ≤ 200 := by
  have e : FP.dsub x 4607182418800017408 = .ofNat (FP.Core.encode FP.Core.b64 (FP.Core.roundRatio FP.Core.b64 false (c - 4503599627370496) 1 (-52))) := by
    show UInt64.ofNat (FP.Core.sub FP.Core.b64 x.toNat (4607182418800017408 : UInt64).toNat) = _
    unfold FP.Core.sub
    rw [h.dec, zN_one.dec]
    obtain ⟨h1, h2, -, -, -⟩ := h
    have hv : FP.Core.sumUnits false c (-52) true 4503599627370496 (-52) (min (-52) (-52)) = ((c - 4503599627370496 : Nat) : Int) := by
      simp only [FP.Core.sumUnits, FP.Core.signed, FP.Core.inUnits]
      rw [show ((-52 : Int) - min (-52) (-52)).toNat = 0 by omega, Nat.pow_zero, Nat.mul_one, Nat.mul_one]
      simp only [Bool.false_eq_true, if_false, if_true]
      omega
    simp only [FP.Core.negate, FP.Core.exactSum, FP.Core.round]
    rw [show (!false) = true from rfl, hv]
    rw [show ((c - 4503599627370496 : Nat) : Int).natAbs = c - 4503599627370496 by omega, show min (-52 : Int) (-52) = -52 by omega]
    have hs : FP.Core.sumSign false true ((c - 4503599627370496 : Nat) : Int) = false := by
      unfold FP.Core.sumSign
      split
      · rfl
      · exact decide_eq_false (by omega)
    rw [hs]
  rw [e]
  obtain ⟨h1, h2, -, -, -⟩ := h
  by_cases h0 : c - 4503599627370496 = 0
  · refine Or.inl ?_
    unfold FP.Core.roundRatio
    rw [if_pos h0, zq_qmin]
    exact zq_enc0
  · refine Or.inr ?_
    have l1 := Nat.log2_self_le h0
    have l2 := Nat.lt_log2_self (n := c - 4503599627370496)
    have l3 : (c - 4503599627370496).log2 < 52 := (Nat.log2_lt h0).mpr (by omega)
    generalize (c - 4503599627370496).log2 = L at l1 l2 l3
    rw [zq_round1 l1 l2 (by omega) (by omega) (by omega)]
    have := zq_size l1 l2 (by omega)
    exact ⟨_, _, zN_of this.1 this.2 (by omega) (by omega), by omega, by omega⟩
/-- doubled n times -/
def zDbl : Nat → UInt64 → UInt64
  | 0, x => x
  | n + 1, x => zDbl n (FP.dmul x 4611686018427387904)
/-- the bits of a number of 0 to 1, n doublings below 1 -/
def zBits (n : Nat) (v : UInt64) : Int64 := Int64.ofNat (1023 - n) * 4503599627370496 + FP.d2l (FP.dmul (FP.dsub (zDbl n v) 4607182418800017408) 4841369599423283200)
theorem zN.n64' {x : UInt64} (h : x = 0 ∨ ∃ c q, zN x c q) : x &&& 0x7fffffffffffffff ≤ 0x7ff0000000000000 := by
  rcases h with rfl | ⟨c, q, h⟩
  · decide
  · exact h.n64
theorem zq_tail {x : UInt64} {c : Nat} (h : zN x c (-52)) : (FP.dsub x 4607182418800017408 = 0 ∨ ∃ c q, zN (FP.dsub x 4607182418800017408) c q) ∧ (FP.dmul (FP.dsub x 4607182418800017408) 4841369599423283200 = 0 ∨ ∃ c q, zN (FP.dmul (FP.dsub x 4607182418800017408) 4841369599423283200) c q) := by
  rcases zq_sub1 h with e | ⟨c', q', e, e1, e2⟩
  · exact ⟨Or.inl e, Or.inl (by rw [e]; exact zq_mul0 zN_p52)⟩
  · exact ⟨Or.inr ⟨_, _, e⟩, Or.inr ⟨_, _, zq_mul e zN_p52 ⟨by omega, by omega⟩ ⟨by omega, by omega⟩⟩⟩
theorem zq_two {x : UInt64} {c : Nat} {q : Int} (h : zN x c q) (hq : -400 ≤ q ∧ q ≤ 400) : zN (FP.dmul x 4611686018427387904) c (q + 1) := by
  have := zq_mul h zN_two hq ⟨by omega, by omega⟩
  rw [show q + 1 = q + -51 + 52 by omega]
  exact this
/-- a share of people: 0, or a normal number not above 1 -/
def zShare (v : UInt64) : Prop := v = 0 ∨ ∃ c q, zN v c q ∧ -160 ≤ q ∧ q ≤ -52
theorem zShare_of {a b : Int32} {n d : Nat} (ha : a.toInt = n) (hb : b.toInt = d) (hnd : n ≤ d) (hd : 0 < d) : zShare (FP.ddiv (FP.i2d a) (FP.i2d b)) ∧ (FP.ddiv (FP.i2d a) (FP.i2d b)) &&& 0x7fffffffffffffff ≤ 0x7ff0000000000000 := by
  have hlt : d < 2 ^ 31 := by have := b.toInt_lt; omega
  have hb0 : d ≠ 0 := by omega
  have b1 := Nat.log2_self_le hb0
  have b2 := Nat.lt_log2_self (n := d)
  have b3 : d.log2 < 31 := (Nat.log2_lt hb0).mpr hlt
  have ib := zq_i2d hb b1 b2 (by omega)
  by_cases h0 : n = 0
  · have : a = 0 := Int32.toInt_inj.mp (by rw [ha, h0]; rfl)
    rw [this, zq_i2d0, zq_div0 ib]
    exact ⟨Or.inl rfl, by decide⟩
  · have a1 := Nat.log2_self_le h0
    have a2 := Nat.lt_log2_self (n := n)
    have a3 : n.log2 ≤ d.log2 := (Nat.le_log2 hb0).mpr (by omega)
    have ia := zq_i2d ha a1 a2 (by omega)
    obtain ⟨c', q', r1, r2, r3⟩ := zq_div ia ib ⟨by omega, by omega⟩ ⟨by omega, by omega⟩
    refine ⟨Or.inr ⟨c', q', r1, by omega, r3 ?_⟩, r1.n64⟩
    rcases Nat.lt_or_ge n.log2 d.log2 with g | g
    · exact Or.inl (by omega)
    · have e : n.log2 = d.log2 := by omega
      refine Or.inr ⟨by rw [e], ?_⟩
      rw [e]
      exact Nat.mul_le_mul_right _ hnd
theorem zShl (n : Nat) (h : n < 120) : (Int64.ofNat (1023 - n)) <<< ((52 : Int32).toInt64 &&& 63) = Int64.ofNat (1023 - n) * 4503599627370496 := by
  have : ∀ k : Fin 120, (Int64.ofNat (1023 - k.val)) <<< ((52 : Int32).toInt64 &&& 63) = Int64.ofNat (1023 - k.val) * 4503599627370496 := by decide +kernel
  exact this ⟨n, h⟩
theorem zExp (n : Nat) (h : n < 119) : Int64.ofNat (1023 - n) - 1 = Int64.ofNat (1023 - (n + 1)) := by
  have : ∀ k : Fin 119, Int64.ofNat (1023 - k.val) - 1 = Int64.ofNat (1023 - (k.val + 1)) := by decide +kernel
  exact this ⟨n, h⟩
