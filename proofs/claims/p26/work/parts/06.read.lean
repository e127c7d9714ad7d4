/-! LadderClimb$Reader and LadderClimb$Works -/
/-- the cell i's row is r -/
def mrow (mem : zM) (i : Nat) (r : Nat → Int32) : zM := fun a b => if a = i then r b else mem a b
theorem mrow_at (mem : zM) (i : Nat) (r : Nat → Int32) : mrow mem i r i = r := by funext b; simp [mrow]
theorem mrow_ne (mem : zM) {i a : Nat} (r : Nat → Int32) (h : a ≠ i) : mrow mem i r a = mem a := by funext b; simp [mrow, h]
theorem mrow_self (mem : zM) (i : Nat) : mrow mem i (mem i) = mem := by
  funext a b
  by_cases h : a = i <;> simp [mrow, h]
theorem mrow_mrow (mem : zM) (i : Nat) (r r' : Nat → Int32) : mrow (mrow mem i r) i r' = mrow mem i r' := by
  funext a b
  by_cases h : a = i <;> simp [mrow, h]
theorem mset_row (mem : zM) (i k : Nat) (v : Int32) : mset mem i k v = mrow mem i (upd (mem i) k v) := by
  funext a b
  by_cases h : a = i
  · subst h
    by_cases hb : b = k <;> simp [mset, mrow, upd, hb]
  · simp [mset, mrow, h]
theorem mset_mrow (mem : zM) (i k : Nat) (r : Nat → Int32) (v : Int32) : mset (mrow mem i r) i k v = mrow mem i (upd r k v) := by
  rw [mset_row, mrow_mrow, mrow_at]
def rStart (r : Nat → Int32) : Nat → Int32 := upd (upd r 0 0) 5 0
def fPW (r : Nat → Int32) : Int32 := if r 0 = 4 then 1 else if r 0 = 3 then (if r 5 < r 1 then 0 else if r 2 < r 5 then 0 else 1) else 0
def fTL (c : Int32) : Int32 := if c < 48 then 0 else if c < 52 then 1 else 0
def rTL (r : Nat → Int32) (c : Int32) : Nat → Int32 := if c < 48 then r else if c < 52 then upd (upd r 3 (c - 48)) 0 1 else r
def rSN (r : Nat → Int32) (c x y : Int32) : Nat → Int32 := upd (upd (upd (upd r 4 c) 1 x) 2 y) 0 2
def fTW (c : Int32) : Int32 := if c = 111 then 1 else if c = 114 then 1 else if c = 117 then 1 else if c = 120 then 1 else 0
def rTW (r : Nat → Int32) (c : Int32) : Nat → Int32 := if c = 111 then rSN r c 20 150 else if c = 114 then rSN r c 0 200 else if c = 117 then rSN r c 0 10 else if c = 120 then upd (upd r 4 c) 0 4 else r
def fCanN (r : Nat → Int32) (d : Int32) : Nat → Int32 → Int32 → Int32
  | 0, _, _ => 0
  | n + 1, lo, hi => if r 2 < lo then (if d = 0 then 0 else fCanN r d n (10 * lo) (10 * hi + 9)) else if hi < r 1 then (if d = 0 then 0 else fCanN r d n (10 * lo) (10 * hi + 9)) else 1
def fCan (r : Nat → Int32) (d : Int32) : Int32 := fCanN r d 3 d d
def fTD (r : Nat → Int32) (c : Int32) : Int32 := if c < 48 then 0 else if c ≤ 57 then (if fCan r (10 * r 5 + c - 48) = 0 then 0 else 1) else 0
def rTD (r : Nat → Int32) (c : Int32) : Nat → Int32 := if c < 48 then r else if c ≤ 57 then (if fCan r (10 * r 5 + c - 48) = 0 then r else upd (upd r 5 (10 * r 5 + c - 48)) 0 3) else r
def fTS (r : Nat → Int32) : Int32 := if fPW r = 0 then 0 else 1
def rTS (r : Nat → Int32) : Nat → Int32 := if fPW r = 0 then r else rStart r
/-- whether the reader takes the character c, and its row then -/
def fTk (r : Nat → Int32) (c : Int32) : Int32 := if r 0 = 0 then fTL c else if r 0 = 1 then fTW c else if r 0 = 2 then fTD r c else if r 0 = 3 then (if c = 59 then fTS r else if r 5 = 0 then 0 else if fTD r c = 0 then 0 else 1) else if c = 59 then (if fTS r = 0 then 0 else 1) else 0
def rTk (r : Nat → Int32) (c : Int32) : Nat → Int32 := if r 0 = 0 then rTL r c else if r 0 = 1 then rTW r c else if r 0 = 2 then rTD r c else if r 0 = 3 then (if c = 59 then rTS r else if r 5 = 0 then r else rTD r c) else if c = 59 then rTS r else r
theorem znb {v : Int32} (h : v = 0 ∨ v = 1) : narrow .boolean (.int v) = .int v := by
  rcases h with rfl | rfl <;> rfl
theorem f01_if {c : Prop} [Decidable c] {x y : Int32} (hx : x = 0 ∨ x = 1) (hy : y = 0 ∨ y = 1) : (if c then x else y) = 0 ∨ (if c then x else y) = 1 := by
  by_cases h : c
  · rw [if_pos h]; exact hx
  · rw [if_neg h]; exact hy
theorem fTL_01 (c : Int32) : fTL c = 0 ∨ fTL c = 1 := f01_if (Or.inl rfl) (f01_if (Or.inr rfl) (Or.inl rfl))
theorem fTW_01 (c : Int32) : fTW c = 0 ∨ fTW c = 1 := f01_if (Or.inr rfl) (f01_if (Or.inr rfl) (f01_if (Or.inr rfl) (f01_if (Or.inr rfl) (Or.inl rfl))))
theorem fTD_01 (r : Nat → Int32) (c : Int32) : fTD r c = 0 ∨ fTD r c = 1 := f01_if (Or.inl rfl) (f01_if (f01_if (Or.inl rfl) (Or.inr rfl)) (Or.inl rfl))
theorem fTS_01 (r : Nat → Int32) : fTS r = 0 ∨ fTS r = 1 := f01_if (Or.inl rfl) (Or.inr rfl)

/-- the reader's row after k characters; after n from the q-th on -/
def rdN (cs r0 : Nat → Int32) : Nat → Nat → Int32
  | 0 => rStart r0
  | k + 1 => rTk (rdN cs r0 k) (cs k)
def rdS (cs r0 : Nat → Int32) (q : Nat) : Nat → Nat → Int32
  | 0 => rStart r0
  | k + 1 => rTk (rdS cs r0 q k) (cs (q + k))
def fCodeAt (mem : zM) (i : Int32) : Int32 := if i < 0 then 0 else if mem 103 1 ≤ i then 0 else if 60 ≤ i then 0 else mem 104 i.toNatClampNeg
theorem fCodeAt_of {mem : zM} {k L : Nat} (hL : L ≤ 60) (hl : mem 103 1 = nI L) (hk : k < L) : fCodeAt mem (nI k) = mem 104 k := by
  unfold fCodeAt
  rw [if_neg (nI_pos (by omega)), hl, if_neg (fun h => absurd ((nI_leI (by omega) (by omega)).mp h) (by omega)), if_neg (show ¬ (60 : Int32) ≤ nI k from fun h => absurd ((nI_leI (a := 60) (b := k) (by omega) (by omega)).mp h) (by omega)), nI_clamp (by omega)]
theorem zklt {k L : Nat} (hk : k < 2 ^ 31) (hL : L < 2 ^ 31) (c : ¬ nI L ≤ nI k) : k < L := Nat.lt_of_not_le (fun h => c ((nI_leI hL hk).mpr h))
def fWFull (mem : zM) : Int32 := if mem 103 1 < 60 then 0 else 1
def sWAdd (mem : zM) (v : Int32) : zM := if mem 103 1 < 0 then mem else if 60 ≤ mem 103 1 then mem else mset (mset mem 104 (mem 103 1).toNatClampNeg v) 103 1 (mem 103 1 + 1)
/-- what firstFault finds: the place k of the first character that the reader does not take -/
def pFF (mem : zM) (L k : Nat) : Prop := k ≤ L ∧ (∀ i, i < k → ¬ fTk (rdN (mem 104) (mem 105) i) (mem 104 i) = 0) ∧ (k < L → fTk (rdN (mem 104) (mem 105) k) (mem 104 k) = 0)
def sFF (mem : zM) (L k : Nat) : zM := mrow mem 105 (if k < L then rTk (rdN (mem 104) (mem 105) k) (mem 104 k) else rdN (mem 104) (mem 105) k)
theorem zvin60 {x : Int32} (h0 : ¬ x < 0) (h1 : ¬ 60 ≤ x) : vp_in x 60 := zvinN (by decide) h0 h1
/-- what nextPart finds -/
def pNP (mem : zM) (L q n : Nat) (u : zM) : Prop := q + n ≤ L ∧ (∀ i, i < n → ¬ mem 104 (q + i) = 59) ∧ ((q + n < L ∧ mem 104 (q + n) = 59 ∧ u = mset (mrow mem 105 (rdS (mem 104) (mem 105) q n)) 103 2 (nI (q + n + 1))) ∨ (q + n = L ∧ u = mset (mrow mem 105 (rdS (mem 104) (mem 105) q n)) 103 2 (nI (q + n))))
theorem mrow_mset (mem : zM) {i a : Nat} (k : Nat) (v : Int32) (r : Nat → Int32) (h : i ≠ a) : mrow (mset mem i k v) a r = mset (mrow mem a r) i k v := by
  funext x y
  by_cases q : x = a
  · subst q
    simp [mrow, mset, show ¬ x = i from fun z => h z.symm]
  · simp [mrow, mset, q]
