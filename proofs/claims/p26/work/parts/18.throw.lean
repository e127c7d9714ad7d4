/-! throwing -/
section ZT
variable {p : Program} {l : Launch} {e : Env} {R : Room} {s : State} {m : MethodId} {args : Array Value} {below : List Frame} {meth : Method} {c : Code} {D : va_G} {tys : List (ClassId × FieldType)} {A : Nat → Prop} {Q : State → Prop} {nL : Nat} {ws : va_W} {cells slots pc : Nat} {lv : List (Nat × Value)} {rest : List Value} {cc : ByteArray} {own : String} {Ts : List Cond}
theorem zx_throwS (E : zE p s m args c D tys A nL cc own Ts) (hZ : zSK A s s.heap) (hl : l.stackTraces = false) (hlocks : meth.locks = false) (htb : ∀ x ∈ c.exceptionTable.toList, False) {Qc : Array Value → State → Outcome → State → Prop} {SY : Type} {py : String → SY → Prop} {outy : SY → va_W} {mc ms : Nat} {cls text : String} {names : List String} {ik is ic : Nat}
    (hcls : Bundle.fit cls = true) (hnames : ∀ n ∈ names, Bundle.fit n = true) (hk : Cond.classLink own ik cls ∈ Ts) (hini : Cond.initialized cls ∈ Ts) (hstr : ∃ sa : Nat, vk_R own is text sa s) (hin : ∀ w ∈ (vx_atS own ic cls names).filter goodWord, w ∈ Ts) (hB : ∀ w ∈ (vx_atS own ic cls names).filter (fun w => !goodWord w), w ∈ zTW)
    (hgood : ∀ w ∈ Cond.classLink own ik cls :: Cond.initialized cls :: vx_atS own ic cls names, vx_ot w = true)
    (d0 : decode cc pc = .ok (.new ik, 3)) (d3 : decode cc (pc + 3) = .ok (.dup, 1)) (d4 : decode cc (pc + 4) = .ok (.ldc is, 2)) (d6 : decode cc (pc + 6) = .ok (.invokespecial ic, 3)) (d9 : decode cc (pc + 9) = .ok (.athrow, 1))
    (hRf : names.length + 3 < R.frames) (hRl : (rest.map fun v => v.category).sum + (13 * (names.length + 1) + 43) ≤ R.locals) (hRc : cells + 1 ≤ R.cells) (hRs : slots + 6 ≤ R.slots) (uy : SY) (hpy : py cls uy) (hw : ws = outy uy) (hc : cells + 1 ≤ mc) (hs : slots + 6 ≤ ms) :
    zW p l e R s m args below meth c D A (vx_MQ below Qc (vx_X (fun u : String × SY => py u.1 u.2) (fun E1 u t => E1 = u.1 ∧ zB D tys A (outy u.2) t) A) args s mc ms A) nL ws cells slots pc lv rest := by
  intro H locs ls hP hD hS hl0
  obtain ⟨sa, hstr⟩ := hstr
  have hU := hZ.2.2.1
  have hN := hZ.2.2.2.1
  have htw : ∀ w ∈ zTW, w.before #[] s = true := by
    obtain ⟨-, -, -, -, -, -, -, -, -, -, -, -, -, -, -, -, -, -, tw⟩ := hZ
    exact tw
  have hat : ∀ w ∈ vx_atS own ic cls names, w.before args s = true := vx_hat (B := zTW) (fun w h => E.hts w (hin w h)) hB (fun w h => va_tabs (by simp only [zTW, List.mem_cons, List.not_mem_nil, or_false] at h; rcases h with rfl | rfl | rfl | rfl | rfl | rfl <;> rfl) rfl (htw w h))
  refine vx_throwS E.hx E.hb hl E.hown hcls hnames (E.hts _ hk) (E.hts _ hini) hstr hat hgood hU hN hS (hl0.1.trans E.hml.symm) d0 d3 d4 d6 d9 (fun x hx => (htb x hx).elim) hRf hRl hRc hRs hlocks ?_ hS.2.2 hc hs
  intro t hvm hz hq
  refine ⟨(cls, uy), hpy, ⟨rfl, ?_⟩, Nat.le_trans hS.1 hz, fun q h1 h2 => (hq q (Nat.lt_of_lt_of_le h1 hS.1)).trans (hS.2.1 q h1 h2)⟩
  show zB D tys A (outy uy) t
  rw [← hw]
  exact ⟨hP.kept (fun k q hk => hq q.1 (hP k q hk).lt), E.hK.moved hvm, hD⟩
theorem zx_throwSW (E : zE p s m args c D tys A nL cc own Ts) (hZ : zSK A s s.heap) (hl : l.stackTraces = false) (hlocks : meth.locks = false) (htb : ∀ x ∈ c.exceptionTable.toList, False) {Qc : Array Value → State → Outcome → State → Prop} {SY : Type} {py : String → SY → Prop} {outy : SY → va_W} {mc ms : Nat} {cls text : String} {names : List String} {ik is ic : Nat}
    (hcls : Bundle.fit cls = true) (hnames : ∀ n ∈ names, Bundle.fit n = true) (hk : Cond.classLink own ik cls ∈ Ts) (hini : Cond.initialized cls ∈ Ts) (hstr : ∃ sa : Nat, vk_R own is text sa s) (hin : ∀ w ∈ (vx_atS own ic cls names).filter goodWord, w ∈ Ts) (hB : ∀ w ∈ (vx_atS own ic cls names).filter (fun w => !goodWord w), w ∈ zTW)
    (hgood : ∀ w ∈ Cond.classLink own ik cls :: Cond.initialized cls :: vx_atS own ic cls names, vx_ot w = true)
    (d0 : decode cc pc = .ok (.new ik, 3)) (d3 : decode cc (pc + 3) = .ok (.dup, 1)) (d4 : decode cc (pc + 4) = .ok (.ldc_w is, 3)) (d6 : decode cc (pc + 7) = .ok (.invokespecial ic, 3)) (d9 : decode cc (pc + 10) = .ok (.athrow, 1))
    (hRf : names.length + 3 < R.frames) (hRl : (rest.map fun v => v.category).sum + (13 * (names.length + 1) + 43) ≤ R.locals) (hRc : cells + 1 ≤ R.cells) (hRs : slots + 6 ≤ R.slots) (uy : SY) (hpy : py cls uy) (hw : ws = outy uy) (hc : cells + 1 ≤ mc) (hs : slots + 6 ≤ ms) :
    zW p l e R s m args below meth c D A (vx_MQ below Qc (vx_X (fun u : String × SY => py u.1 u.2) (fun E1 u t => E1 = u.1 ∧ zB D tys A (outy u.2) t) A) args s mc ms A) nL ws cells slots pc lv rest := by
  intro H locs ls hP hD hS hl0
  obtain ⟨sa, hstr⟩ := hstr
  have hU := hZ.2.2.1
  have hN := hZ.2.2.2.1
  have htw : ∀ w ∈ zTW, w.before #[] s = true := by
    obtain ⟨-, -, -, -, -, -, -, -, -, -, -, -, -, -, -, -, -, -, tw⟩ := hZ
    exact tw
  have hat : ∀ w ∈ vx_atS own ic cls names, w.before args s = true := vx_hat (B := zTW) (fun w h => E.hts w (hin w h)) hB (fun w h => va_tabs (by simp only [zTW, List.mem_cons, List.not_mem_nil, or_false] at h; rcases h with rfl | rfl | rfl | rfl | rfl | rfl <;> rfl) rfl (htw w h))
  refine vx_throwSW E.hx E.hb hl E.hown hcls hnames (E.hts _ hk) (E.hts _ hini) hstr hat hgood hU hN hS (hl0.1.trans E.hml.symm) d0 d3 d4 d6 d9 (fun x hx => (htb x hx).elim) hRf hRl hRc hRs hlocks ?_ hS.2.2 hc hs
  intro t hvm hz hq
  refine ⟨(cls, uy), hpy, ⟨rfl, ?_⟩, Nat.le_trans hS.1 hz, fun q h1 h2 => (hq q (Nat.lt_of_lt_of_le h1 hS.1)).trans (hS.2.1 q h1 h2)⟩
  show zB D tys A (outy uy) t
  rw [← hw]
  exact ⟨hP.kept (fun k q hk => hq q.1 (hP k q hk).lt), E.hK.moved hvm, hD⟩
end ZT
