/-! the start, on both sides -/
theorem zOK_pp {c : zM} (h : zOK c) : ∀ i, i < 4 → rPp (rv c i) ((c (3 * i) 7).toNatClampNeg) := fun i hi => by
  obtain ⟨-, p, hp⟩ := h i hi
  have l := hp.1
  have e : c (3 * i) 7 = nI p := hp.2.1
  rw [e, nI_clamp (by omega)]
  exact hp
def cm0 : zM := fun i k => if i % 3 = 0 ∧ i < 87 then (if k = 0 then 50 else if k = 1 then 150 else if k = 2 then 20 else if k = 3 then 2 else if k = 4 then 2 else 0) else 0
def ms0 : Nat → Int32 := fun j => if j < 56 then (if j % 14 = 0 then 50 else if j % 14 = 1 then 150 else if j % 14 = 2 then 20 else if j % 14 = 3 then 2 else if j % 14 = 4 then 2 else 0) else 0
def mm0 : zM := fun i k => if i = 1 then ms0 k else 0
theorem zSite_start : zSite 0 cm0 0 (mm0 1) := by
  refine ⟨fun k hk => ?_, ⟨0, by omega, by decide⟩, by decide, by decide⟩
  rcases (show k = 0 ∨ k = 1 ∨ k = 2 ∨ k = 3 by omega) with rfl | rfl | rfl | rfl
  all_goals
    refine ⟨by unfold rFd; decide, 0, ⟨by omega, by decide, fun t ht => ⟨fun h => absurd h (by omega), fun _ => ?_⟩⟩, by decide, by decide, by decide, by decide, by decide, by decide, by decide, by decide, fun t ht => absurd ht (by omega)⟩
    rcases (show t = 0 ∨ t = 1 ∨ t = 2 by omega) with rfl | rfl | rfl <;> decide
theorem zR_start : zR 0 cm0 mm0 0 0 0 := ⟨zSite_start, ⟨by omega, by omega, by decide, by decide, by decide, fun i hi => absurd hi (Nat.not_lt_zero i)⟩, by omega, by decide, by decide, fun i hi => absurd hi (Nat.not_lt_zero i)⟩
