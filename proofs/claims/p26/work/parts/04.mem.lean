/-! the class's memory: cell i holds the ints mem i k; its cells lie at ad 0 .. ad 106 -/
abbrev zM : Type := Nat → Nat → Int32
def mset (mem : zM) (i k : Nat) (v : Int32) : zM := fun a b => if a = i ∧ b = k then v else mem a b
theorem mset_self (mem : zM) (i k : Nat) (v : Int32) : mset mem i k v i = upd (mem i) k v := by
  funext b
  by_cases h : b = k <;> simp [mset, upd, h]
theorem mset_ne (mem : zM) {i a : Nat} (k : Nat) (v : Int32) (h : a ≠ i) : mset mem i k v a = mem a := by
  funext b
  simp [mset, h]
theorem mset_at (mem : zM) (i k : Nat) (v : Int32) : mset mem i k v i k = v := by simp [mset]
theorem mset_ne2 (mem : zM) {i k b : Nat} (v : Int32) (h : b ≠ k) : mset mem i k v i b = mem i b := by simp [mset, h]
theorem mset_same {mem : zM} {i k : Nat} {v : Int32} (h : mem i k = v) : mset mem i k v = mem := by
  funext a b
  by_cases q : a = i ∧ b = k
  · obtain ⟨rfl, rfl⟩ := q
    simp [mset, h]
  · simp [mset, q]
theorem mset_over (mem : zM) (i k : Nat) (v w : Int32) : mset (mset mem i k v) i k w = mset mem i k w := by
  funext a b
  by_cases q : a = i ∧ b = k <;> simp [mset, q]
/-- what the cell i is, with the row r of its ints -/
def cRow (ad : Nat → Nat) (cI cR cS : ClassId) (i : Nat) (r : Nat → Int32) : va_E :=
  if i < 87 then
    if i % 3 = 0 then .inr (2, [.int (r 0), .int (r 1), .int (r 2), .int (r 3), .int (r 4), .int (r 5), .int (r 6), .int (r 7), .ref (ad (i + 1)), .ref (ad (i + 2))])
    else .inl (cI, 3, .inl r)
  else if i < 94 then .inr (3, [.ref (ad (i + 7)), .int (r 1), .int (r 2)])
  else if i < 101 then .inl (cR, 4, .inr (.inr (.inr (.inr (fun k => some (ad (3 * (4 * (i - 94) + k))))))))
  else if i = 101 then .inr (0, [.ref (ad 102), .int (r 1), .int (r 2)])
  else if i = 102 then .inl (cS, 6, .inr (.inr (.inr (.inr (fun k => some (ad (88 + k)))))))
  else if i = 103 then .inr (4, [.ref (ad 104), .int (r 1), .int (r 2), .ref (ad 105)])
  else if i = 104 then .inl (cI, 60, .inl r)
  else if i = 105 then .inr (1, [.int (r 0), .int (r 1), .int (r 2), .int (r 3), .int (r 4), .int (r 5)])
  else .inr (5, [.ref (ad 87), .ref (ad 101), .ref (ad 103), .ref (ad 84)])
def cw (ad : Nat → Nat) (cI cR cS : ClassId) (mem : zM) : va_W := (List.range 107).map (fun i => (ad i, cRow ad cI cR cS i (mem i)))
/-- the kinds of arrays that are used -/
abbrev cK (cI cR cS _cL : ClassId) : List (ClassId × FieldType) := [(cI, .int), (cR, .object "LadderClimb$Rig"), (cS, .object "LadderClimb$Site")]
section ZM
variable {ad : Nat → Nat} {cI cR cS : ClassId} {mem : zM}
theorem cw_at {i : Nat} (hi : i < 107) : (cw ad cI cR cS mem)[i]? = some (ad i, cRow ad cI cR cS i (mem i)) := by
  simp [cw, hi]
theorem cw_len : (cw ad cI cR cS mem).length = 107 := by simp [cw]
theorem cw_set {i : Nat} (hi : i < 107) {mem' : zM} {x : va_E} (he : cRow ad cI cR cS i (mem' i) = x) (ho : ∀ k, k ≠ i → mem' k = mem k) : (cw ad cI cR cS mem).set i (ad i, x) = cw ad cI cR cS mem' := by
  apply List.ext_getElem?
  intro k
  by_cases hk : k = i
  · subst hk
    rw [List.getElem?_set_self (by rw [cw_len]; exact hi), cw_at hi, he]
  · rw [List.getElem?_set_ne (fun h => hk h.symm)]
    by_cases hl : k < 107
    · rw [cw_at hl, cw_at hl, ho k hk]
    · rw [List.getElem?_eq_none (by rw [cw_len]; omega), List.getElem?_eq_none (by rw [cw_len]; omega)]
theorem cw_rig {j : Nat} (hj : j < 29) : (cw ad cI cR cS mem)[3 * j]? = some (ad (3 * j), .inr (2, [.int (mem (3 * j) 0), .int (mem (3 * j) 1), .int (mem (3 * j) 2), .int (mem (3 * j) 3), .int (mem (3 * j) 4), .int (mem (3 * j) 5), .int (mem (3 * j) 6), .int (mem (3 * j) 7), .ref (ad (3 * j + 1)), .ref (ad (3 * j + 2))])) := by
  rw [cw_at (by omega)]
  simp [cRow, show 3 * j < 87 by omega]
theorem cw_wt {j : Nat} (hj : j < 29) : (cw ad cI cR cS mem)[3 * j + 1]? = some (ad (3 * j + 1), .inl (cI, 3, .inl (mem (3 * j + 1)))) := by
  rw [cw_at (by omega)]
  simp [cRow, show 3 * j + 1 < 87 by omega, show (3 * j + 1) % 3 ≠ 0 by omega]
theorem cw_st {j : Nat} (hj : j < 29) : (cw ad cI cR cS mem)[3 * j + 2]? = some (ad (3 * j + 2), .inl (cI, 3, .inl (mem (3 * j + 2)))) := by
  rw [cw_at (by omega)]
  simp [cRow, show 3 * j + 2 < 87 by omega, show (3 * j + 2) % 3 ≠ 0 by omega]
theorem cw_site {t : Nat} (ht : t < 7) : (cw ad cI cR cS mem)[87 + t]? = some (ad (87 + t), .inr (3, [.ref (ad (94 + t)), .int (mem (87 + t) 1), .int (mem (87 + t) 2)])) := by
  rw [cw_at (by omega)]
  simp [cRow, show ¬ 87 + t < 87 by omega, show 87 + t < 94 by omega, show 87 + t + 7 = 94 + t by omega]
theorem cw_rigs {t : Nat} (ht : t < 7) : (cw ad cI cR cS mem)[94 + t]? = some (ad (94 + t), .inl (cR, 4, .inr (.inr (.inr (.inr (fun k => some (ad (3 * (4 * t + k))))))))) := by
  rw [cw_at (by omega)]
  simp [cRow, show ¬ 94 + t < 87 by omega, show ¬ 94 + t < 94 by omega, show 94 + t < 101 by omega, show 94 + t - 94 = t by omega]
theorem cw_hist : (cw ad cI cR cS mem)[101]? = some (ad 101, .inr (0, [.ref (ad 102), .int (mem 101 1), .int (mem 101 2)])) := by
  rw [cw_at (by omega)]; simp [cRow]
theorem cw_saved : (cw ad cI cR cS mem)[102]? = some (ad 102, .inl (cS, 6, .inr (.inr (.inr (.inr (fun k => some (ad (88 + k)))))))) := by
  rw [cw_at (by omega)]; simp [cRow]
theorem cw_works : (cw ad cI cR cS mem)[103]? = some (ad 103, .inr (4, [.ref (ad 104), .int (mem 103 1), .int (mem 103 2), .ref (ad 105)])) := by
  rw [cw_at (by omega)]; simp [cRow]
theorem cw_codes : (cw ad cI cR cS mem)[104]? = some (ad 104, .inl (cI, 60, .inl (mem 104))) := by
  rw [cw_at (by omega)]; simp [cRow]
theorem cw_read : (cw ad cI cR cS mem)[105]? = some (ad 105, .inr (1, [.int (mem 105 0), .int (mem 105 1), .int (mem 105 2), .int (mem 105 3), .int (mem 105 4), .int (mem 105 5)])) := by
  rw [cw_at (by omega)]; simp [cRow]
theorem cw_lad : (cw ad cI cR cS mem)[106]? = some (ad 106, .inr (5, [.ref (ad 87), .ref (ad 101), .ref (ad 103), .ref (ad 84)])) := by
  rw [cw_at (by omega)]; simp [cRow]
/-- a store into a field, into a row -/
theorem cs_rig {j : Nat} (hj : j < 29) (k : Nat) (hk : k < 8) {v : Int32} {x : va_E} (hx : x = .inr (2, [.int (mem (3 * j) 0), .int (mem (3 * j) 1), .int (mem (3 * j) 2), .int (mem (3 * j) 3), .int (mem (3 * j) 4), .int (mem (3 * j) 5), .int (mem (3 * j) 6), .int (mem (3 * j) 7), .ref (ad (3 * j + 1)), .ref (ad (3 * j + 2))].set k (.int v))) : (cw ad cI cR cS mem).set (3 * j) (ad (3 * j), x) = cw ad cI cR cS (mset mem (3 * j) k v) := by
  refine cw_set (by omega) ?_ (fun a ha => mset_ne mem k v ha)
  rw [hx, mset_self]
  rcases (show k = 0 ∨ k = 1 ∨ k = 2 ∨ k = 3 ∨ k = 4 ∨ k = 5 ∨ k = 6 ∨ k = 7 by omega) with h | h | h | h | h | h | h | h <;> subst h <;> simp [cRow, upd, show 3 * j < 87 by omega]
theorem cs_wt {j : Nat} (hj : j < 29) (n : Nat) (v : Int32) : (cw ad cI cR cS mem).set (3 * j + 1) (ad (3 * j + 1), .inl (cI, 3, .inl (upd (mem (3 * j + 1)) n v))) = cw ad cI cR cS (mset mem (3 * j + 1) n v) := by
  refine cw_set (by omega) ?_ (fun a ha => mset_ne mem n v ha)
  rw [mset_self]
  simp [cRow, show 3 * j + 1 < 87 by omega, show (3 * j + 1) % 3 ≠ 0 by omega]
theorem cs_st {j : Nat} (hj : j < 29) (n : Nat) (v : Int32) : (cw ad cI cR cS mem).set (3 * j + 2) (ad (3 * j + 2), .inl (cI, 3, .inl (upd (mem (3 * j + 2)) n v))) = cw ad cI cR cS (mset mem (3 * j + 2) n v) := by
  refine cw_set (by omega) ?_ (fun a ha => mset_ne mem n v ha)
  rw [mset_self]
  simp [cRow, show 3 * j + 2 < 87 by omega, show (3 * j + 2) % 3 ≠ 0 by omega]
theorem cs_site {t : Nat} (ht : t < 7) (k : Nat) (hk0 : 1 ≤ k) (hk : k < 3) {v : Int32} {x : va_E} (hx : x = .inr (3, [.ref (ad (94 + t)), .int (mem (87 + t) 1), .int (mem (87 + t) 2)].set k (.int v))) : (cw ad cI cR cS mem).set (87 + t) (ad (87 + t), x) = cw ad cI cR cS (mset mem (87 + t) k v) := by
  refine cw_set (by omega) ?_ (fun a ha => mset_ne mem k v ha)
  rw [hx, mset_self]
  rcases (show k = 1 ∨ k = 2 by omega) with h | h <;> subst h <;> simp [cRow, upd, show ¬ 87 + t < 87 by omega, show 87 + t < 94 by omega, show 87 + t + 7 = 94 + t by omega]
theorem cs_hist (k : Nat) (hk0 : 1 ≤ k) (hk : k < 3) {v : Int32} {x : va_E} (hx : x = .inr (0, [.ref (ad 102), .int (mem 101 1), .int (mem 101 2)].set k (.int v))) : (cw ad cI cR cS mem).set 101 (ad 101, x) = cw ad cI cR cS (mset mem 101 k v) := by
  refine cw_set (by omega) ?_ (fun a ha => mset_ne mem k v ha)
  rw [hx, mset_self]
  rcases (show k = 1 ∨ k = 2 by omega) with h | h <;> subst h <;> simp [cRow, upd]
theorem cs_works (k : Nat) (hk0 : 1 ≤ k) (hk : k < 3) {v : Int32} {x : va_E} (hx : x = .inr (4, [.ref (ad 104), .int (mem 103 1), .int (mem 103 2), .ref (ad 105)].set k (.int v))) : (cw ad cI cR cS mem).set 103 (ad 103, x) = cw ad cI cR cS (mset mem 103 k v) := by
  refine cw_set (by omega) ?_ (fun a ha => mset_ne mem k v ha)
  rw [hx, mset_self]
  rcases (show k = 1 ∨ k = 2 by omega) with h | h <;> subst h <;> simp [cRow, upd]
theorem cs_codes (n : Nat) (v : Int32) : (cw ad cI cR cS mem).set 104 (ad 104, .inl (cI, 60, .inl (upd (mem 104) n v))) = cw ad cI cR cS (mset mem 104 n v) := by
  refine cw_set (by omega) ?_ (fun a ha => mset_ne mem n v ha)
  rw [mset_self]
  simp [cRow]
theorem cs_read (k : Nat) (hk : k < 6) {v : Int32} {x : va_E} (hx : x = .inr (1, [.int (mem 105 0), .int (mem 105 1), .int (mem 105 2), .int (mem 105 3), .int (mem 105 4), .int (mem 105 5)].set k (.int v))) : (cw ad cI cR cS mem).set 105 (ad 105, x) = cw ad cI cR cS (mset mem 105 k v) := by
  refine cw_set (by omega) ?_ (fun a ha => mset_ne mem k v ha)
  rw [hx, mset_self]
  rcases (show k = 0 ∨ k = 1 ∨ k = 2 ∨ k = 3 ∨ k = 4 ∨ k = 5 by omega) with h | h | h | h | h | h <;> subst h <;> simp [cRow, upd]
end ZM
/-- the numbers of the rig j: 0 to 7 its fields, 8 to 10 the weights, 11 to 13 the steps -/
def rv (mem : zM) (j : Nat) : Nat → Int32 := fun k => if k < 8 then mem (3 * j) k else if k < 11 then mem (3 * j + 1) (k - 8) else if k < 14 then mem (3 * j + 2) (k - 11) else 0
/-- a name for the memory -/
theorem z_gm {p : Program} {l : Launch} {e : Env} {R : Room} {s : State} {m : MethodId} {args : Array Value} {below : List Frame} {meth : Method} {c : Code} {D : va_G} {A : Nat → Prop} {Q : State → Prop} {nL : Nat} {cells slots pc : Nat} {lv : List (Nat × Value)} {st : List Value} {ad : Nat → Nat} {cI cR cS : ClassId} {mem : zM} (k : ∀ m' : zM, m' = mem → zW p l e R s m args below meth c D A Q nL (cw ad cI cR cS m') cells slots pc lv st) : zW p l e R s m args below meth c D A Q nL (cw ad cI cR cS mem) cells slots pc lv st := k mem rfl
