/-! the reference's reader: a number -/
/-- the reader's fields from 10 on may change, and nothing else -/
def zRd (mem u : zM) : Prop := (∀ a, a ≠ 0 → u a = mem a) ∧ ∀ j, j < 10 → u 0 j = mem 0 j
theorem zRd.refl (mem : zM) : zRd mem mem := ⟨fun _ _ => rfl, fun _ _ => rfl⟩
theorem zRd.trans {a b c : zM} (h1 : zRd a b) (h2 : zRd b c) : zRd a c := ⟨fun i hi => (h2.1 i hi).trans (h1.1 i hi), fun k hk => (h2.2 k hk).trans (h1.2 k hk)⟩
theorem zRd.fld {mem u : zM} (h : zRd mem u) {k : Nat} (hk : 10 ≤ k) (v : Int32) : zRd mem (mset u 0 k v) := ⟨fun i hi => (mset_ne u k v hi).trans (h.1 i hi), fun j hj => (mset_ne2 u v (by omega)).trans (h.2 j hj)⟩
theorem zRd_sign (mem : zM) (P L : Nat) (lo hi : Int32) : zRd mem (sSign mem P L lo hi) := by
  unfold sSign
  split
  · exact (zRd.refl mem).fld (by omega) _
  · exact (zRd.refl mem).fld (by omega) _
def mDig (t : Nat → Int32) (L : Nat) (lo hi : Int32) : Nat → Nat → Int32 → Nat × Int32
  | 0, P, N => (P, N)
  | f + 1, P, N => if (if P < L then (if t P < 48 ∨ 57 < t P then (0 : Int32) else if N ≤ 0 then 0 else if fBg (10 * N + t P - 48) lo hi = 0 then 0 else 1) else 0) = 0 then (P, N) else mDig t L lo hi f (P + 1) (10 * N + t P - 48)
theorem mDig_s (t : Nat → Int32) (L : Nat) (lo hi : Int32) (f P : Nat) (N : Int32) : mDig t L lo hi (f + 1) P N = if (if P < L then (if t P < 48 ∨ 57 < t P then (0 : Int32) else if N ≤ 0 then 0 else if fBg (10 * N + t P - 48) lo hi = 0 then 0 else 1) else 0) = 0 then (P, N) else mDig t L lo hi f (P + 1) (10 * N + t P - 48) := by rw [mDig]
theorem fGo_lt {mem : zM} {P L : Nat} {N lo hi : Int32} (h : ¬ fGo mem P L N lo hi = 0) : P < L := Decidable.byContradiction (fun q => h (if_neg q))
theorem fGo_01 (mem : zM) (P L : Nat) (N lo hi : Int32) : fGo mem P L N lo hi = 0 ∨ fGo mem P L N lo hi = 1 := f01_if (f01_if (Or.inl rfl) (f01_if (Or.inl rfl) (f01_if (Or.inl rfl) (Or.inr rfl)))) (Or.inl rfl)
