/-! the share of people is a number of 0 to 1 -/
theorem zR_share {B : Nat} {c mm : zM} {q z L : Nat} (h : zR B c mm q z L) (hB : B ≤ 1000000) : (¬ fPeople c 0 + c 87 1 = 0 → vf_n64 (FP.ddiv (FP.i2d (fPeople c 0)) (FP.i2d (fPeople c 0 + c 87 1)))) ∧ zShare (fSafe c) := by
  obtain ⟨hok, -⟩ := zSite_0 h.1
  obtain ⟨F, hF, eF⟩ := h.1.2.1
  obtain ⟨p0, l0, e0⟩ := hok.h3 0 (by omega)
  obtain ⟨p1, l1, e1⟩ := hok.h3 1 (by omega)
  obtain ⟨p2, l2, e2⟩ := hok.h3 2 (by omega)
  obtain ⟨p3, l3, e3⟩ := hok.h3 3 (by omega)
  have eP : fPeople c 0 = nI (p0 + p1 + p2 + p3) := by
    show 0 + c (3 * 0) 7 + c (3 * 1) 7 + c (3 * 2) 7 + c (3 * 3) 7 = _
    rw [e0, e1, e2, e3, Int32.zero_add, nI_add, nI_add, nI_add]
  have eF' : c 87 1 = nI F := eF
  have eA : fPeople c 0 + c 87 1 = nI (p0 + p1 + p2 + p3 + F) := by rw [eP, eF', nI_add]
  have tP : (fPeople c 0).toInt = ((p0 + p1 + p2 + p3 : Nat) : Int) := by rw [eP]; exact zL (by omega)
  have tA : (fPeople c 0 + c 87 1).toInt = ((p0 + p1 + p2 + p3 + F : Nat) : Int) := by rw [eA]; exact zL (by omega)
  have key : ¬ fPeople c 0 + c 87 1 = 0 → zShare (FP.ddiv (FP.i2d (fPeople c 0)) (FP.i2d (fPeople c 0 + c 87 1))) ∧ (FP.ddiv (FP.i2d (fPeople c 0)) (FP.i2d (fPeople c 0 + c 87 1))) &&& 0x7fffffffffffffff ≤ 0x7ff0000000000000 := fun hne =>
    zShare_of tP tA (by omega) (Nat.pos_of_ne_zero (fun z0 => hne (by rw [eA, z0]; rfl)))
  refine ⟨fun hne => (key hne).2, ?_⟩
  unfold fSafe
  split
  · exact Or.inr ⟨_, _, zN_one, by omega, by omega⟩
  · next hne => exact (key hne).1
