/-! what a rig is, as far as forces go; the start -/
/-- its people, as far as forces go -/
def rQ (R : Nat → Int32) (p : Nat) : Prop := p ≤ 3 ∧ ∀ t, t < 3 → (0 ≤ (R (8 + t)).toInt ∧ (R (8 + t)).toInt ≤ 150) ∧ (0 ≤ (R (11 + t)).toInt ∧ (R (11 + t)).toInt ≤ 10) ∧ (p ≤ t → R (8 + t) = 0)
theorem rQ_of {R : Nat → Int32} {p : Nat} (h : rPp R p) : rQ R p := by
  refine ⟨h.1, fun t ht => ?_⟩
  obtain ⟨a, b⟩ := h.2.2 t ht
  rcases Nat.lt_or_ge t p with g | g
  · obtain ⟨w, z, h1, h2, h3, h4, h5⟩ := a g
    rw [h4, h5, nI_toInt (by omega), nI_toInt (by omega)]
    exact ⟨by omega, by omega, fun h => by omega⟩
  · obtain ⟨b1, b2⟩ := b g
    rw [b1, b2]
    exact ⟨by decide, by decide, fun _ => rfl⟩
def fWk (x : Int32) : Int32 := if x = 0 then 0 else if x = 1 then 20 else if x = 2 then 45 else 60
def fGk (x : Int32) : Int32 := if x = 0 then 5 else if x = 1 then 25 else if x = 2 then 40 else 60
theorem zOK_pp {c : zM} (h : zOK c) : ∀ i, i < 4 → rPp (rv c i) ((c (3 * i) 7).toNatClampNeg) := fun i hi => by
  obtain ⟨-, p, hp⟩ := h i hi
  have l := hp.1
  have e : c (3 * i) 7 = nI p := hp.2.1
  rw [e, nI_clamp (by omega)]
  exact hp
def cm0 : zM := fun i k => if i % 3 = 0 ∧ i < 87 then (if k = 0 then 50 else if k = 1 then 150 else if k = 2 then 20 else if k = 3 then 2 else if k = 4 then 2 else 0) else 0
