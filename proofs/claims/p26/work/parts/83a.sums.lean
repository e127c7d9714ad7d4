/-! what stays true of an object over all acts; its sums -/
def zFl (B : Nat) (m : zM) : Prop := ∃ (c : Nat → Nat) (n : Nat), (∀ i, i < 4 → rv m i 6 = nI (c i)) ∧ m 87 1 = nI n ∧ c 0 + c 1 + c 2 + c 3 ≤ n ∧ n ≤ 3 * (c 0 + c 1 + c 2 + c 3) ∧ n ≤ B
def zSt (m : zM) : Prop := ∀ i, i < 4 → ¬ rv m i 7 = 0 → ¬ fStands (rv m i) = 0
def zIN (B : Nat) (m : zM) : Prop := zOK m ∧ zSt m ∧ zFl B m
def zSp (m : zM) : Nat → Int32
  | 0 => 0
  | k + 1 => zSp m k + rv m k 7
def zSf (m : zM) : Nat → Int32
  | 0 => 0
  | k + 1 => zSf m k + rv m k 6
def zSs (m : zM) : Nat → Int32
  | 0 => 0
  | k + 1 => zSs m k + fStands (rv m k)
theorem zSp_all (m : zM) : zSp m 4 = fPeople m 0 := rfl
theorem zSf_all (m : zM) : zSf m 4 = fFalls m 0 := rfl
theorem fCntC_st (R : Nat → Int32) (acc : Int32) (k : Int32 → Int32) : fCntC (fStands R) acc k = k (acc + fStands R) := by
  unfold fCntC
  rcases fStands_01 R with h | h
  · rw [if_pos h, h, Int32.add_zero]
  · rw [if_neg (by rw [h]; decide), h]
theorem zSs_all (m : zM) : zSs m 4 = fStanding m 0 := by
  unfold fStanding
  simp only [fCntC_st]
  rfl
theorem zFalls_of {B : Nat} {m : zM} (h : zFl B m) (hB : B ≤ 1000000) : ¬ m 87 1 < fFalls m 0 ∧ ¬ 3 * fFalls m 0 < m 87 1 := by
  obtain ⟨c, n, h1, h2, h3, h4, h5⟩ := h
  have e : fFalls m 0 = nI (c 0 + c 1 + c 2 + c 3) := by
    show 0 + rv m 0 6 + rv m 1 6 + rv m 2 6 + rv m 3 6 = _
    rw [h1 0 (by omega), h1 1 (by omega), h1 2 (by omega), h1 3 (by omega), Int32.zero_add, nI_add, nI_add, nI_add]
  rw [e, h2]
  have a := zL (n := n) (by omega)
  have b := zL (n := c 0 + c 1 + c 2 + c 3) (by omega)
  have d : (3 * nI (c 0 + c 1 + c 2 + c 3)).toInt = 3 * ((c 0 + c 1 + c 2 + c 3 : Nat) : Int) := zmI (by decide) b (by omega) (by omega)
  exact ⟨by rw [zltI a b]; omega, by rw [zltI d a]; omega⟩
theorem perR {R : Nat → Int32} {p t : Nat} (hp : rPp R p) (ht : t < p) : ¬ R (8 + t) ≤ 19 ∧ ¬ 151 ≤ R (8 + t) ∧ ¬ R (11 + t) < 0 ∧ ¬ 11 ≤ R (11 + t) := by
  have hp3 := hp.1
  obtain ⟨w, a, w1, w2, ha, ew, e⟩ := (hp.2.2 t (by omega)).1 ht
  rw [ew, e]
  have e1 := zL (n := w) (by omega)
  have e2 := zL (n := a) (by omega)
  exact ⟨by rw [zleI e1 (b := 19) (by decide)]; omega, by rw [zleI (a := 151) (by decide) e1]; omega, by rw [zltI e2 zc0]; omega, by rw [zleI (a := 11) (by decide) e2]; omega⟩
/-! the share -/
theorem zq_self {x : UInt64} {c : Nat} {q : Int} (h : zN x c q) : FP.dcmp x x = some .eq := by
  show FP.Core.order (FP.Core.decode FP.Core.b64 x.toNat) (FP.Core.decode FP.Core.b64 x.toNat) = _
  rw [h.dec]
  simp only [FP.Core.order, FP.Core.signed, FP.Core.inUnits]
  first | exact congrArg some (Std.compare_eq_eq.mpr rfl) | simp
theorem zN_eq {x y : UInt64} {c : Nat} {q : Int} (h : zN x c q) (h' : zN y c q) : x = y := by
  obtain ⟨-, -, -, -, a⟩ := h
  obtain ⟨-, -, -, -, b⟩ := h'
  exact UInt64.toNat_inj.mp (a.trans b.symm)
theorem zq_one {a : Int32} {n : Nat} (ha : a.toInt = n) (hn : n ≤ 15) : FP.dmul (FP.i2d a) 4607182418800017408 = FP.i2d a ∧ vf_n64 (FP.i2d a) := by
  rcases Nat.eq_zero_or_pos n with h0 | h0
  · have e : a = 0 := Int32.toInt_inj.mp (by rw [ha, h0]; rfl)
    rw [e, zq_i2d0]
    exact ⟨zq_mul0 zN_one, (by decide : (0 : UInt64) &&& 0x7fffffffffffffff ≤ 0x7ff0000000000000)⟩
  · obtain ⟨L, hL, h1, h2⟩ : ∃ L, L ≤ 3 ∧ 2 ^ L ≤ n ∧ n < 2 ^ (L + 1) := by
      rcases (show n = 1 ∨ (2 ≤ n ∧ n ≤ 3) ∨ (4 ≤ n ∧ n ≤ 7) ∨ 8 ≤ n by omega) with h | h | h | h
      · exact ⟨0, by omega, by omega, by omega⟩
      · exact ⟨1, by omega, by omega, by omega⟩
      · exact ⟨2, by omega, by omega, by omega⟩
      · exact ⟨3, by omega, by omega, by omega⟩
    have h := zq_i2d ha h1 h2 (by omega)
    have hm := zq_mul h zN_one (by omega) (by omega)
    rw [show -((52 - L : Nat) : Int) + -52 + 52 = -((52 - L : Nat) : Int) by omega] at hm
    exact ⟨zN_eq hm h, h.n64⟩
theorem zShare_in {B : Nat} {m : zM} (h : zIN B m) (hB : B ≤ 1000000) : (¬ fPeople m 0 + m 87 1 = 0 → vf_n64 (FP.ddiv (FP.i2d (fPeople m 0)) (FP.i2d (fPeople m 0 + m 87 1)))) ∧ FP.dmul (FP.i2d (fPeople m 0)) 4607182418800017408 = FP.i2d (fPeople m 0) ∧ vf_n64 (FP.i2d (fPeople m 0)) ∧ FP.dcmp (fSafe m) (fSafe m) = some .eq := by
  obtain ⟨hok, -, c, F, -, eF, -, -, hF⟩ := h
  obtain ⟨p0, l0, e0⟩ := hok.h3 0 (by omega)
  obtain ⟨p1, l1, e1⟩ := hok.h3 1 (by omega)
  obtain ⟨p2, l2, e2⟩ := hok.h3 2 (by omega)
  obtain ⟨p3, l3, e3⟩ := hok.h3 3 (by omega)
  have eP : fPeople m 0 = nI (p0 + p1 + p2 + p3) := by
    show 0 + m (3 * 0) 7 + m (3 * 1) 7 + m (3 * 2) 7 + m (3 * 3) 7 = _
    rw [e0, e1, e2, e3, Int32.zero_add, nI_add, nI_add, nI_add]
  have eA : fPeople m 0 + m 87 1 = nI (p0 + p1 + p2 + p3 + F) := by rw [eP, eF, nI_add]
  have tP : (fPeople m 0).toInt = ((p0 + p1 + p2 + p3 : Nat) : Int) := by rw [eP]; exact zL (by omega)
  have tA : (fPeople m 0 + m 87 1).toInt = ((p0 + p1 + p2 + p3 + F : Nat) : Int) := by rw [eA]; exact zL (by omega)
  have key : ¬ fPeople m 0 + m 87 1 = 0 → zShare (FP.ddiv (FP.i2d (fPeople m 0)) (FP.i2d (fPeople m 0 + m 87 1))) ∧ (FP.ddiv (FP.i2d (fPeople m 0)) (FP.i2d (fPeople m 0 + m 87 1))) &&& 0x7fffffffffffffff ≤ 0x7ff0000000000000 := fun hne =>
    zShare_of tP tA (by omega) (Nat.pos_of_ne_zero (fun z0 => hne (by rw [eA, z0]; rfl)))
  obtain ⟨o1, o2⟩ := zq_one tP (by omega)
  refine ⟨fun hne => (key hne).2, o1, o2, ?_⟩
  have hs : zShare (fSafe m) := by
    unfold fSafe
    split
    · exact Or.inr ⟨_, _, zN_one, by omega, by omega⟩
    · next hne => exact (key hne).1
  rcases hs with e | ⟨c', q', hN, -, -⟩
  · rw [e]; exact zq_cmp00
  · exact zq_self hN
