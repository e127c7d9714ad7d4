/-! rows for the law -/
section ZLR
variable {p : Program} {l : Launch} {e : Env} {R : Room} {s : State} {m : MethodId} {args : Array Value} {below : List Frame} {meth : Method} {c : Code} {D : va_G} {tys : List (ClassId × FieldType)} {A : Nat → Prop} {Q : State → Prop} {nL : Nat} {cc : ByteArray} {own : String} {Ts : List Cond} {ws : va_W} {cells slots pc : Nat} {lv : List (Nat × Value)} {rest : List Value}
theorem z_lcmp (E : zE p s m args c D tys A nL cc own Ts) {x y : Int64} (d : decode cc pc = .ok (.lcmp, 1)) (k : zW p l e R s m args below meth c D A Q nL ws cells slots (pc + 1) lv (.int (lg_cmp x y) :: rest)) : zW p l e R s m args below meth c D A Q nL ws cells slots pc lv (.long y :: .long x :: rest) := fun H locs ls hP hD hS hl => W.lcmp E.hx E.hb d (k H locs ls hP hD hS hl)
theorem z_sld (E : zE p s m args c D tys A nL cc own Ts) {b L : Nat} {xs : Nat → Int32} (hX : va_X b L xs s s.heap) (hbl : b < s.heap.size) (hbA : ¬ A b) {i v : Int32} (hin : vp_in i L) (hv : xs i.toNatClampNeg = v) (d : decode cc pc = .ok (.iaload, 1)) (k : zW p l e R s m args below meth c D A Q nL ws cells slots (pc + 1) lv (.int v :: rest)) : zW p l e R s m args below meth c D A Q nL ws cells slots pc lv (.int i :: .ref b :: rest) := fun H locs ls hP hD hS hl => va_sld E.hx E.hb hX hbl hbA hS hin d (by rw [hv]; exact k H locs ls hP hD hS hl)
theorem z_slen (E : zE p s m args c D tys A nL cc own Ts) {b L : Nat} {xs : Nat → Int32} (hX : va_X b L xs s s.heap) (hbl : b < s.heap.size) (hbA : ¬ A b) (d : decode cc pc = .ok (.arraylength, 1)) (k : zW p l e R s m args below meth c D A Q nL ws cells slots (pc + 1) lv (.int (nI L) :: rest)) : zW p l e R s m args below meth c D A Q nL ws cells slots pc lv (.ref b :: rest) := fun H locs ls hP hD hS hl => va_slen E.hx E.hb hX hbl hbA hS d (k H locs ls hP hD hS hl)
end ZLR
section ZLW
variable {ad am : Nat → Nat} {cI cR cS cL : ClassId} {dg : Int64} {cm mm : zM} {o : Nat} {f : Nat → Int64} {y : va_W}
theorem lw_mod : (mw am cI dg mm ++ y)[0]? = some (am 0, .inr (6, [.int (mm 0 0), .ref (am 1), .ref (am 2), .int (mm 0 3), .ref (am 3), .int (mm 0 5), .int (mm 0 6), .int (mm 0 7), .int (mm 0 8), .int (mm 0 9), .int (mm 0 10), .int (mm 0 11), .int (mm 0 12), .int (mm 0 13), .int (mm 0 14), .long dg])) := rfl
theorem mw_len : (mw am cI dg mm).length = 4 := rfl
theorem lw_lad : (mw am cI dg mm ++ (cw ad cI cR cS cm ++ y))[110]? = some (ad 106, .inr (5, [.ref (ad 87), .ref (ad 101), .ref (ad 103), .ref (ad 84)])) := by
  rw [List.getElem?_append_right (by rw [mw_len]; omega), mw_len]
  exact ow_lad
theorem lw_out {x : Nat × va_E} : (mw am cI dg mm ++ (cw ad cI cR cS cm ++ [x]))[111]? = some x := by
  rw [List.getElem?_append_right (by rw [mw_len]; omega), mw_len]
  exact ow_at
end ZLW
theorem pWr_ans {cd : String → Int32} {S : zO} {r b w : Int32} {u : zM × (Nat → Int64)} {P : zM → Prop} (hcd : ∀ E, ¬ cd E = 0) (h1 : pWr cd S r u) (h2 : mAns cd P S b w) : w = r ∧ (r = 0 → u.2 0 = b.toInt64) ∧ P u.1 := by
  rcases h1 with ⟨E, e1, rfl⟩ | ⟨v, e1, rfl, e2⟩
  · rcases h2 with ⟨E', c', e3, rfl, e5⟩ | ⟨v', c', e3, -, -, -⟩
    · rw [e1] at e3
      cases e3
      exact ⟨rfl, fun q => absurd q (hcd _), e5⟩
    · rw [e1] at e3; cases e3
  · rcases h2 with ⟨E', c', e3, -, -⟩ | ⟨v', c', e3, rfl, rfl, e5⟩
    · rw [e1] at e3; cases e3
    · rw [e1] at e3
      cases e3
      exact ⟨rfl, fun _ => e2, e5⟩
theorem pWrL_ans {cd : String → Int32} {cm : zM} {S : String ⊕ Int32} {r b w : Int32} {u : zM × (Nat → Int64)} (hcd : ∀ E, ¬ cd E = 0) (h1 : pWrL cd cm S r u) (h2 : mAnsL cd S b w) : w = r ∧ (r = 0 → u.2 0 = b.toInt64) ∧ zTr cm u.1 := by
  obtain ⟨ht, h1⟩ := h1
  rcases h1 with ⟨E, e1, rfl⟩ | ⟨v, e1, rfl, e2⟩
  · rcases h2 with ⟨E', e3, rfl⟩ | ⟨v', e3, -, -⟩
    · rw [e1] at e3
      cases e3
      exact ⟨rfl, fun q => absurd q (hcd _), ht⟩
    · rw [e1] at e3; cases e3
  · rcases h2 with ⟨E', e3, -⟩ | ⟨v', e3, rfl, rfl⟩
    · rw [e1] at e3; cases e3
    · rw [e1] at e3
      cases e3
      exact ⟨rfl, fun _ => e2, ht⟩
theorem pWrP_ans {B : Nat} {cm c1 m : zM} {q z L : Nat} {r b w : Int32} {u : zM × (Nat → Int64)} (h1 : pWrP cm c1 L r u) (h2 : (¬ zWh cm L ∧ w = 1 ∧ ∀ k2, zR B (sFF cm L k2) m q z L) ∨ (zWh cm L ∧ w = 0 ∧ b = nI (zPlay L 60 0 c1).1 ∧ ∃ q' z', zR (B + 180) (mset (zPlay L 60 0 c1).2 103 1 0) m q' z' 0)) : w = r ∧ (r = 0 → u.2 0 = b.toInt64) ∧ ∃ q' z' L', zR (B + 180) u.1 m q' z' L' := by
  rcases h1 with ⟨e1, rfl, k, e2⟩ | ⟨e1, rfl, e2, e3⟩
  · rcases h2 with ⟨-, rfl, e4⟩ | ⟨e4, -⟩
    · exact ⟨rfl, fun q => absurd q (by decide), q, z, L, by rw [e2]; exact zR_mono (by omega) (e4 k)⟩
    · exact absurd e4 e1
  · rcases h2 with ⟨e4, -⟩ | ⟨-, rfl, rfl, q', z', e5⟩
    · exact absurd e1 e4
    · exact ⟨rfl, fun _ => e3, q', z', 0, by rw [e2]; exact e5⟩
theorem cdL_ne (E : String) : ¬ cdL E = 0 := by
  unfold cdL
  split
  · decide
  · split <;> decide
theorem cdA_ne (E : String) : ¬ cdA E = 0 := by
  unfold cdA
  split <;> decide
theorem cdU_ne (E : String) : ¬ cdU E = 0 := by unfold cdU; decide
theorem cdC_ne (E : String) : ¬ cdC E = 0 := by unfold cdC; decide
