/-! the numbers of a rig, behind stores and copies -/
theorem rv_fld {mem : zM} {j n : Nat} (hn : n < 8) (v : Int32) : rv (mset mem (3 * j) n v) j = upd (rv mem j) n v := by
  funext k
  unfold rv upd
  dsimp only
  by_cases h : k < 8
  · rw [if_pos h, if_pos h]
    by_cases e : k = n
    · subst e; simp [mset]
    · simp [mset, e]
  · rw [if_neg h, if_neg h, if_neg (show ¬ k = n by omega), mset_ne _ _ _ (by omega), mset_ne _ _ _ (by omega)]
theorem rv_wt {mem : zM} {j n : Nat} (hn : n < 3) (v : Int32) : rv (mset mem (3 * j + 1) n v) j = upd (rv mem j) (8 + n) v := by
  funext k
  unfold rv upd
  dsimp only
  by_cases h : k < 8
  · rw [if_pos h, if_pos h, if_neg (show ¬ k = 8 + n by omega), mset_ne _ _ _ (by omega)]
  · rw [if_neg h, if_neg h]
    by_cases h2 : k < 11
    · rw [if_pos h2, if_pos h2]
      by_cases e : k = 8 + n
      · subst e; simp [mset]
      · simp [mset, e, show ¬ k - 8 = n by omega]
    · rw [if_neg h2, if_neg h2, if_neg (show ¬ k = 8 + n by omega), mset_ne _ _ _ (by omega)]
theorem rv_st {mem : zM} {j n : Nat} (hn : n < 3) (v : Int32) : rv (mset mem (3 * j + 2) n v) j = upd (rv mem j) (11 + n) v := by
  funext k
  unfold rv upd
  dsimp only
  by_cases h : k < 8
  · rw [if_pos h, if_pos h, if_neg (show ¬ k = 11 + n by omega), mset_ne _ _ _ (by omega)]
  · rw [if_neg h, if_neg h]
    by_cases h2 : k < 11
    · rw [if_pos h2, if_pos h2, if_neg (show ¬ k = 11 + n by omega), mset_ne _ _ _ (by omega)]
    · rw [if_neg h2, if_neg h2]
      by_cases h3 : k < 14
      · rw [if_pos h3, if_pos h3]
        by_cases e : k = 11 + n
        · subst e; simp [mset]
        · simp [mset, e, show ¬ k - 11 = n by omega]
      · rw [if_neg h3, if_neg h3, if_neg (show ¬ k = 11 + n by omega)]
theorem rv_ne {mem : zM} {i j n : Nat} {v : Int32} (h : i ≠ 3 * j) (h1 : i ≠ 3 * j + 1) (h2 : i ≠ 3 * j + 2) : rv (mset mem i n v) j = rv mem j := by
  funext k
  unfold rv
  rw [mset_ne _ _ _ (Ne.symm h), mset_ne _ _ _ (Ne.symm h1), mset_ne _ _ _ (Ne.symm h2)]
theorem rv_eq {m m2 : zM} {j : Nat} (h : m (3 * j) = m2 (3 * j)) (h1 : m (3 * j + 1) = m2 (3 * j + 1)) (h2 : m (3 * j + 2) = m2 (3 * j + 2)) : rv m j = rv m2 j := by
  funext k
  unfold rv
  rw [h, h1, h2]
theorem rv_copy {mem : zM} {a b : Nat} : rv (sCopy mem a b) a = rv mem b := by
  funext k
  unfold rv
  by_cases h : k < 8
  · rw [if_pos h, if_pos h]; simp [sCopy, h]
  · rw [if_neg h, if_neg h]
    by_cases h2 : k < 11
    · rw [if_pos h2, if_pos h2]
      have e : k - 8 < 3 := by omega
      simp [sCopy, e]
    · rw [if_neg h2, if_neg h2]
      by_cases h3 : k < 14
      · rw [if_pos h3, if_pos h3]
        have e : k - 11 < 3 := by omega
        simp [sCopy, e]
      · rw [if_neg h3, if_neg h3]
theorem sCopy_ne {mem : zM} {a b i : Nat} (h : i ≠ 3 * a) (h1 : i ≠ 3 * a + 1) (h2 : i ≠ 3 * a + 2) : sCopy mem a b i = mem i := by
  funext k
  simp [sCopy, h, h1, h2]
theorem rv_copy_ne {mem : zM} {a b j : Nat} (h : j ≠ a) : rv (sCopy mem a b) j = rv mem j := rv_eq (sCopy_ne (by omega) (by omega) (by omega)) (sCopy_ne (by omega) (by omega) (by omega)) (sCopy_ne (by omega) (by omega) (by omega))
/-- a person gone -/
def rmR (R : Nat → Int32) (t : Nat) : Nat → Int32 := fun k => if k = 7 then R 7 - 1 else if k < 8 then R k else if k < 11 then shiftR (fun b => R (8 + b)) t (k - 8) else if k < 14 then shiftR (fun b => R (11 + b)) t (k - 11) else 0
theorem shiftR_congr {f g : Nat → Int32} {t k : Nat} (h : ∀ b, b < 3 → f b = g b) (hk : k < 3) : shiftR f t k = shiftR g t k := by
  unfold shiftR
  by_cases h0 : k = 2
  · rw [if_pos h0, if_pos h0]
  · rw [if_neg h0, if_neg h0]
    by_cases h1 : t ≤ k ∧ k < 2
    · rw [if_pos h1, if_pos h1, h _ (by omega)]
    · rw [if_neg h1, if_neg h1, h _ hk]
theorem rv_remove {mem : zM} {j : Nat} {q : Int32} (hb : ¬ fBears (rv mem j) q = 0) : rv (sRemove mem j q) j = rmR (rv mem j) q.toNatClampNeg := by
  funext k
  unfold rmR sRemove
  rw [if_neg hb]
  by_cases h7 : k = 7
  · subst h7
    simp [rv]
  · rw [if_neg h7]
    by_cases h : k < 8
    · rw [if_pos h]
      simp [rv, h, h7]
    · rw [if_neg h]
      by_cases h2 : k < 11
      · rw [if_pos h2]
        have e : k - 8 < 3 := by omega
        have e2 : rv (fun i k => if i = 3 * j + 1 then shiftR (mem (3 * j + 1)) q.toNatClampNeg k else if i = 3 * j + 2 then shiftR (mem (3 * j + 2)) q.toNatClampNeg k else if i = 3 * j ∧ k = 7 then mem (3 * j) 7 - 1 else mem i k) j k = shiftR (mem (3 * j + 1)) q.toNatClampNeg (k - 8) := by simp [rv, h, h2]
        rw [e2]
        exact shiftR_congr (fun b hb => by simp [rv, show ¬ 8 + b < 8 by omega, show 8 + b < 11 by omega]) e
      · rw [if_neg h2]
        by_cases h3 : k < 14
        · rw [if_pos h3]
          have e : k - 11 < 3 := by omega
          have e2 : rv (fun i k => if i = 3 * j + 1 then shiftR (mem (3 * j + 1)) q.toNatClampNeg k else if i = 3 * j + 2 then shiftR (mem (3 * j + 2)) q.toNatClampNeg k else if i = 3 * j ∧ k = 7 then mem (3 * j) 7 - 1 else mem i k) j k = shiftR (mem (3 * j + 2)) q.toNatClampNeg (k - 11) := by simp [rv, h, h2, h3]
          rw [e2]
          exact shiftR_congr (fun b hb => by simp [rv, show ¬ 11 + b < 8 by omega, show ¬ 11 + b < 11 by omega, show 11 + b < 14 by omega]) e
        · rw [if_neg h3]
          simp [rv, h, h2, h3]
theorem sRemove_ne {mem : zM} {j i : Nat} {q : Int32} (h : i ≠ 3 * j) (h1 : i ≠ 3 * j + 1) (h2 : i ≠ 3 * j + 2) : sRemove mem j q i = mem i := by
  unfold sRemove
  by_cases hb : fBears (rv mem j) q = 0
  · rw [if_pos hb]
  · rw [if_neg hb]
    funext k
    simp [h, h1, h2]
/-- the trial rig alone has changed -/
def zTr (mem u : zM) : Prop := ∀ i, i < 84 ∨ 86 < i → u i = mem i
theorem zTr.rfl' {mem : zM} : zTr mem mem := fun _ _ => rfl
theorem zTr.trans {a b c : zM} (h1 : zTr a b) (h2 : zTr b c) : zTr a c := fun i hi => (h2 i hi).trans (h1 i hi)
theorem zTr.rv {mem u : zM} (h : zTr mem u) {j : Nat} (hj : j < 28) : rv u j = rv mem j := rv_eq (h _ (by omega)) (h _ (by omega)) (h _ (by omega))
theorem zTr.set {mem u : zM} (h : zTr mem u) {i : Nat} (hi : 84 ≤ i) (h2 : i ≤ 86) (k : Nat) (v : Int32) : zTr mem (mset u i k v) := fun a ha => (mset_ne u k v (by omega)).trans (h a ha)
theorem zTr.copy {mem u : zM} (h : zTr mem u) (b : Nat) : zTr mem (sCopy u 28 b) := fun a ha => (sCopy_ne (by omega) (by omega) (by omega)).trans (h a ha)
theorem zTr.remove {mem u : zM} (h : zTr mem u) (q : Int32) : zTr mem (sRemove u 28 q) := fun a ha => (sRemove_ne (by omega) (by omega) (by omega)).trans (h a ha)
