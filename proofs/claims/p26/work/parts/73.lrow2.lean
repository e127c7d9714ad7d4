/-! more rows for the law's own methods: remainder, shift, a plain body that knows what cannot be cast, a body that reads the script -/
section ZL2
variable {p : Program} {l : Launch} {e : Env} {R : Room} {s : State} {m : MethodId} {args : Array Value} {below : List Frame} {meth : Method} {c : Code} {D : va_G} {tys : List (ClassId × FieldType)} {A : Nat → Prop} {Q : State → Prop} {nL : Nat} {cc : ByteArray} {own : String} {Ts : List Cond} {ws : va_W} {cells slots pc : Nat} {lv : List (Nat × Value)} {rest : List Value}
theorem z_irem (E : zE p s m args c D tys A nL cc own Ts) {x y : Int32} (d : decode cc pc = .ok (.irem, 1)) (hne : ¬ y = 0) (k : zW p l e R s m args below meth c D A Q nL ws cells slots (pc + 1) lv (.int (x - x / y * y) :: rest)) : zW p l e R s m args below meth c D A Q nL ws cells slots pc lv (.int y :: .int x :: rest) := fun H locs ls hP hD hS hl => lv_irem E.hx E.hb d hne (k H locs ls hP hD hS hl)
theorem z_ishr (E : zE p s m args c D tys A nL cc own Ts) {x y : Int32} (d : decode cc pc = .ok (.ishr, 1)) (k : zW p l e R s m args below meth c D A Q nL ws cells slots (pc + 1) lv (.int (x >>> (y &&& 31)) :: rest)) : zW p l e R s m args below meth c D A Q nL ws cells slots pc lv (.int y :: .int x :: rest) := fun H locs ls hP hD hS hl => lv_ishr E.hx E.hb d (k H locs ls hP hD hS hl)
theorem z_callSN (E : zE p s m args c D tys A nL cc own Ts) (hZ : zSK A s s.heap) (hN : zNC s) {y : MethodName} {wl wl' : List Cond} {rm : Room} {bytes : ByteArray} {maxL mc ms n index : Nat} {ret : Option FieldType} {As st : List Value} {S : Type} {post : Int32 → S → Prop} {out : S → va_W} (hM : zMT l y wl rm D tys As ws post out mc ms) (hg : GoodIn Ts (va_wsS own index y wl)) (hw : wl = Cond.code y bytes maxL ret :: wl') (hmc : rm.cells = mc) (hms : rm.slots = ms) (hd : y.cls ≠ "java/lang/invoke/MethodHandle" ∧ y.cls ≠ "java/lang/invoke/VarHandle" ∧ (parseMethodDescriptor y.desc).map (fun d => d.parameters.length) = some n) (hn : As.length = n) (hR : rm.frames + 1 ≤ R.frames ∧ 8 + (maxL + 11) + rm.locals ≤ R.locals) (hstk : st = As.reverse ++ rest) (hcat : (rest.map fun v => v.category).sum ≤ 8) (hf : cells + mc ≤ R.cells ∧ slots + ms ≤ R.slots) (d : decode cc pc = .ok (.invokestatic index, 3)) (k : ∀ (r : Int32) (u : S), post r u → zW p l e R s m args below meth c D A Q nL (out u) (cells + mc) (slots + ms) (pc + 3) lv (.int r :: rest)) : zW p l e R s m args below meth c D A Q nL ws cells slots pc lv st := fun H locs ls hP hD hS hl => va_calli (va_runS (As := As) (rest := rest) ⟨E.hx, E.hb, E.hml, E.hown, E.hts⟩ (hM H.size) (va_cwS n E.hts hg hw hmc hms hd hR) ⟨zPcN.blind, fun U hU hW => ⟨zPc.start hP hD hS E.hA E.hK hZ U hU hW, hN.moved hW.alike⟩⟩ rfl hn hl.1 hstk (lv_room hcat) d hf) hS (fun q _ h => zA.in hD hS E.hA q h) (fun q h => zA.in hD hS E.hA q h) (fun r u t H1 locs1 ht hvm hp hB hz1 hk1 hS1 => k r u hp H1 locs1 ls (by rw [← ht]; exact hB.1) (hB.2.2.weaken (fun _ q _ h => zA.in hD hS E.hA q.1 h)) hS1 hl)
end ZL2
theorem zMTc.of {l : Launch} {y : MethodName} {wl wl' : List Cond} {rm : Room} {D : va_G} {tys : List (ClassId × FieldType)} {av : List Value} {ws : va_W} {cc : ByteArray} {maxL : Nat} {ret : Option FieldType} {mc ms : Nat} {S : Type} {post : Int32 → S → Prop} {out : S → va_W} (hy : plainName y.cls = true) (hw : wl = Cond.code y cc maxL ret :: wl') {lv0 : List (Nat × Value)} (hlen : (lg_sl av).length ≤ maxL) (hlv : lv_args 0 av = lv0)
    (body : ∀ (p : Program) (e : Env) (s : State) (m : MethodId) (args : Array Value) (below : List Frame) (meth : Method) (c : Code), zE p s m args c D tys (va_A ws s.heap.size) maxL cc y.cls wl → zSK (va_A ws s.heap.size) s s.heap → zNC s → meth.sig.returnType = ret → meth.locks = false →
      zW p l e rm s m args below meth c D (va_A ws s.heap.size) (MQ below (va_Qi post (fun u => zB D tys (va_A ws s.heap.size) (out u)) (va_A ws s.heap.size)) args s mc ms (va_A ws s.heap.size)) maxL ws 0 0 0 lv0 []) : zMT l y wl rm D tys av ws post out mc ms := by
  intro sz
  refine Met.ofW (cc := cc) (maxL := maxL) (ret := ret) hy hw ?_
  intro p e s m args below meth c s₁ B hml hv
  obtain ⟨⟨rfl, hsz, hP, hK, hD0, hZ⟩, hN⟩ := hv
  subst hsz
  have hD := hD0.self (sz := s.heap.size)
  have hl := lv_entry av (n := maxL) hlen
  rw [hlv] at hl
  rw [lg_entry_eq]
  exact body p e s m _ below meth c ⟨B.exec, B.bytes, hml, findClass_of_methodNamed B.named, atoms_spec (ws := wl) B.pre, hK, fun q h => Or.inr h⟩ hZ hN B.returns B.notSynchronized s.heap [] _ hP hD va_S.rf hl
/-- the script lies outside -/
def zScr (b L : Nat) (xs : Nat → Int32) (ws : va_W) (U : State) : Prop := va_X b L xs U U.heap ∧ b < U.heap.size ∧ ¬ va_A ws U.heap.size b
def zPcS (b L : Nat) (xs : Nat → Int32) (D : va_G) (tys : List (ClassId × FieldType)) (av : List Value) (ws : va_W) (sz : Nat) : Array Value → State → Prop := fun a U => zPc D tys av ws sz a U ∧ zScr b L xs ws U
theorem zPcS.blind {b L : Nat} {xs : Nat → Int32} {D : va_G} {tys : List (ClassId × FieldType)} {av : List Value} {ws : va_W} {sz : Nat} : FrameBlind (zPcS b L xs D tys av ws sz) := fun a U g mk q => ⟨zPc.blind a U g mk q.1, q.2.1.moved (u := U) (U := U.calling g mk a) (Vm.Alike.refl U.vm), q.2.2⟩
def zMS (b L : Nat) (xs : Nat → Int32) (l : Launch) (y : MethodName) (wl : List Cond) (rm : Room) (D : va_G) (tys : List (ClassId × FieldType)) (av : List Value) (ws : va_W) {S : Type} (post : Int32 → S → Prop) (out : S → va_W) (mc ms : Nat) : Prop := ∀ sz : Nat, Met l y wl rm (zPcS b L xs D tys av ws sz) (va_Qi post (fun u => zB D tys (va_A ws sz) (out u)) (va_A ws sz)) mc ms (va_A ws sz)
theorem zMS.of {b L : Nat} {xs : Nat → Int32} {l : Launch} {y : MethodName} {wl wl' : List Cond} {rm : Room} {D : va_G} {tys : List (ClassId × FieldType)} {av : List Value} {ws : va_W} {cc : ByteArray} {maxL : Nat} {ret : Option FieldType} {mc ms : Nat} {S : Type} {post : Int32 → S → Prop} {out : S → va_W} (hy : plainName y.cls = true) (hw : wl = Cond.code y cc maxL ret :: wl') {lv0 : List (Nat × Value)} (hlen : (lg_sl av).length ≤ maxL) (hlv : lv_args 0 av = lv0)
    (body : ∀ (p : Program) (e : Env) (s : State) (m : MethodId) (args : Array Value) (below : List Frame) (meth : Method) (c : Code), zE p s m args c D tys (va_A ws s.heap.size) maxL cc y.cls wl → zScr b L xs ws s → meth.sig.returnType = ret → meth.locks = false →
      zW p l e rm s m args below meth c D (va_A ws s.heap.size) (MQ below (va_Qi post (fun u => zB D tys (va_A ws s.heap.size) (out u)) (va_A ws s.heap.size)) args s mc ms (va_A ws s.heap.size)) maxL ws 0 0 0 lv0 []) : zMS b L xs l y wl rm D tys av ws post out mc ms := by
  intro sz
  refine Met.ofW (cc := cc) (maxL := maxL) (ret := ret) hy hw ?_
  intro p e s m args below meth c s₁ B hml hv
  obtain ⟨⟨rfl, hsz, hP, hK, hD0, hZ⟩, hX⟩ := hv
  subst hsz
  have hD := hD0.self (sz := s.heap.size)
  have hl := lv_entry av (n := maxL) hlen
  rw [hlv] at hl
  rw [lg_entry_eq]
  exact body p e s m _ below meth c ⟨B.exec, B.bytes, hml, findClass_of_methodNamed B.named, atoms_spec (ws := wl) B.pre, hK, fun q h => Or.inr h⟩ hX B.returns B.notSynchronized s.heap [] _ hP hD va_S.rf hl
section ZL3
variable {p : Program} {l : Launch} {e : Env} {R : Room} {s : State} {m : MethodId} {args : Array Value} {below : List Frame} {meth : Method} {c : Code} {D : va_G} {tys : List (ClassId × FieldType)} {A : Nat → Prop} {Q : State → Prop} {nL : Nat} {cc : ByteArray} {own : String} {Ts : List Cond} {ws : va_W} {cells slots pc : Nat} {lv : List (Nat × Value)} {rest : List Value}
theorem z_callSS (E : zE p s m args c D tys A nL cc own Ts) (hZ : zSK A s s.heap) {b L : Nat} {xs : Nat → Int32} (hX : va_X b L xs s s.heap) (hbl : b < s.heap.size) (hbA : ¬ A b) {y : MethodName} {wl wl' : List Cond} {rm : Room} {bytes : ByteArray} {maxL mc ms n index : Nat} {ret : Option FieldType} {As st : List Value} {S : Type} {post : Int32 → S → Prop} {out : S → va_W} (hM : zMS b L xs l y wl rm D tys As ws post out mc ms) (hg : GoodIn Ts (va_wsS own index y wl)) (hw : wl = Cond.code y bytes maxL ret :: wl') (hmc : rm.cells = mc) (hms : rm.slots = ms) (hd : y.cls ≠ "java/lang/invoke/MethodHandle" ∧ y.cls ≠ "java/lang/invoke/VarHandle" ∧ (parseMethodDescriptor y.desc).map (fun d => d.parameters.length) = some n) (hn : As.length = n) (hR : rm.frames + 1 ≤ R.frames ∧ 8 + (maxL + 11) + rm.locals ≤ R.locals) (hstk : st = As.reverse ++ rest) (hcat : (rest.map fun v => v.category).sum ≤ 8) (hf : cells + mc ≤ R.cells ∧ slots + ms ≤ R.slots) (d : decode cc pc = .ok (.invokestatic index, 3)) (k : ∀ (r : Int32) (u : S), post r u → zW p l e R s m args below meth c D A Q nL (out u) (cells + mc) (slots + ms) (pc + 3) lv (.int r :: rest)) : zW p l e R s m args below meth c D A Q nL ws cells slots pc lv st := fun H locs ls hP hD hS hl => va_calli (va_runS (As := As) (rest := rest) ⟨E.hx, E.hb, E.hml, E.hown, E.hts⟩ (hM H.size) (va_cwS n E.hts hg hw hmc hms hd hR) ⟨zPcS.blind, fun U hU hW => ⟨zPc.start hP hD hS E.hA E.hK hZ U hU hW, by
    subst hU
    exact ⟨(hX.kept (hS.2.1 b hbl hbA)).moved hW.alike, Nat.lt_of_lt_of_le hbl hS.1, fun h => hbA (zA.in hD hS E.hA b h)⟩⟩⟩ rfl hn hl.1 hstk (lv_room hcat) d hf) hS (fun q _ h => zA.in hD hS E.hA q h) (fun q h => zA.in hD hS E.hA q h) (fun r u t H1 locs1 ht hvm hp hB hz1 hk1 hS1 => k r u hp H1 locs1 ls (by rw [← ht]; exact hB.1) (hB.2.2.weaken (fun _ q _ h => zA.in hD hS E.hA q.1 h)) hS1 hl)
end ZL3
/-- the law's row of one int -/
def iE (cI : ClassId) (o : Nat) (f : Nat → Int32) : Nat × va_E := (o, .inl (cI, 1, .inl f))
section ZOW
variable {ad ap : Nat → Nat} {cI cR cS : ClassId} {mem pm : zM}
theorem ow_at {x : Nat × va_E} : (cw ad cI cR cS mem ++ [x])[107]? = some x := by
  rw [List.getElem?_append_right (by rw [cw_len]; omega), cw_len]; rfl
theorem ow_lad {x : va_W} : (cw ad cI cR cS mem ++ x)[106]? = some (ad 106, .inr (5, [.ref (ad 87), .ref (ad 101), .ref (ad 103), .ref (ad 84)])) := by
  rw [List.getElem?_append_left (by rw [cw_len]; omega)]; exact cw_lad
theorem ow_lad2 {x : va_W} : (cw ad cI cR cS mem ++ (cw ap cI cR cS pm ++ x))[213]? = some (ap 106, .inr (5, [.ref (ap 87), .ref (ap 101), .ref (ap 103), .ref (ap 84)])) := by
  rw [List.getElem?_append_right (by rw [cw_len]; omega), cw_len]; exact ow_lad
theorem ow_lad3 : (cw ad cI cR cS mem ++ cw ap cI cR cS pm)[213]? = some (ap 106, .inr (5, [.ref (ap 87), .ref (ap 101), .ref (ap 103), .ref (ap 84)])) := by
  rw [List.getElem?_append_right (by rw [cw_len]; omega), cw_len]; exact cw_lad
theorem ow_set {x y : Nat × va_E} : (cw ad cI cR cS mem ++ [x]).set 107 y = cw ad cI cR cS mem ++ [y] := by
  rw [List.set_append_right (h := by rw [cw_len]; omega), cw_len]; rfl
theorem ow_at2 {x : Nat × va_E} : (cw ad cI cR cS mem ++ (cw ap cI cR cS pm ++ [x]))[214]? = some x := by
  rw [List.getElem?_append_right (by rw [cw_len]; omega), cw_len]; exact ow_at
end ZOW
/-- what the law says of an exception -/
def cdX (E : String) : Int32 := if E = "java/lang/IndexOutOfBoundsException" then 1 else if E = "java/lang/IllegalArgumentException" then 2 else 3
/-- what a call of the law's own leaves -/
def pWr (S : zO) (r : Int32) (u : zM × (Nat → Int32)) : Prop := (∃ E, S = (.inl E, u.1) ∧ r = cdX E) ∨ (∃ v, S = (.inr v, u.1) ∧ r = 0 ∧ u.2 0 = v)
/-- the remainder without the sign -/
def fLow (v n : Int32) : Int32 := (v &&& 2147483647) - (v &&& 2147483647) / n * n
set_option maxHeartbeats 1000000 in
set_option maxRecDepth 100000 in
theorem k_low (l : Launch) (D : va_G) (cI cR cS cL : ClassId) (ws : va_W) (v n : Int32) (hn : ¬ n = 0) : zMi l yL_low wsL_low ({ frames := 1, cells := 0, slots := 0, locals := 20 }) D (cK cI cR cS cL) [.int v, .int n] ws (fun r (_ : Unit) => r = fLow v n) (fun _ => ws) 0 0 := by
  refine zMiM.of (cc := cL_low) (maxL := 2) (ret := (some .int)) (by decide +kernel) rfl (lv0 := [(0, .int v), (1, .int n)]) (Nat.le_of_ble_eq_true rfl) rfl ?_
  intro p e s m args below meth c E hZ hr hlocks hnm
  refine z_iload_n E dL_low_0 rfl 0 rfl ?_
  refine z_ldc (v := 2147483647) E dL_low_1 (List.mem_of_getElem? (i := 1) (by decide +kernel)) ?_
  refine z_iand E dL_low_3 ?_
  refine z_iload_n E dL_low_4 rfl 1 rfl ?_
  refine z_irem E dL_low_5 hn ?_
  exact z_iretM E hr hlocks () rfl rfl (Nat.le_of_ble_eq_true rfl) (Nat.le_of_ble_eq_true rfl) dL_low_6
/-- the script's number at k, or another behind its end -/
def fCell (xs : Nat → Int32) (L k : Nat) : Int32 := if k < L then xs k else 7919 * (nI k + 7) * (nI k + 97)
set_option maxHeartbeats 1000000 in
set_option maxRecDepth 100000 in
theorem k_cell (l : Launch) (D : va_G) (cI cR cS cL : ClassId) (ws : va_W) {b L : Nat} {xs : Nat → Int32} (hL : L ≤ 260) {k : Nat} (hk : k < 1000) : zMS b L xs l yL_cell wsL_cell ({ frames := 1, cells := 0, slots := 0, locals := 20 }) D (cK cI cR cS cL) [.ref b, .int (nI k)] ws (fun r (_ : Unit) => r = fCell xs L k) (fun _ => ws) 0 0 := by
  refine zMS.of (cc := cL_cell) (maxL := 2) (ret := (some .int)) (by decide +kernel) rfl (lv0 := [(0, .ref b), (1, .int (nI k))]) (Nat.le_of_ble_eq_true rfl) rfl ?_
  intro p e s m args below meth c E hX hr hlocks
  refine z_iload_n E dL_cell_0 rfl 1 rfl ?_
  refine z_aload_n E dL_cell_1 rfl 0 rfl ?_
  refine z_slen E hX.1 hX.2.1 hX.2.2 dL_cell_2 ?_
  refine z_icmp_ge (tgt := 12) E dL_cell_3 (by decide) (fun c3 => ?_) (fun c3 => ?_)
  · have h : ¬ k < L := by have := (nI_leI (a := L) (b := k) (by omega) (by omega)).mp c3; omega
    refine z_sipush (v := 7919) E dL_cell_12 (by decide) ?_
    refine z_iload_n E dL_cell_15 rfl 1 rfl ?_
    refine z_bipush (v := 7) E dL_cell_16 (by decide) ?_
    refine z_iadd E dL_cell_18 ?_
    refine z_imul E dL_cell_19 ?_
    refine z_iload_n E dL_cell_20 rfl 1 rfl ?_
    refine z_bipush (v := 97) E dL_cell_21 (by decide) ?_
    refine z_iadd E dL_cell_23 ?_
    refine z_imul E dL_cell_24 ?_
    exact z_iretM E hr hlocks () rfl (if_neg h).symm (Nat.le_of_ble_eq_true rfl) (Nat.le_of_ble_eq_true rfl) dL_cell_25
  · have h : k < L := Nat.lt_of_not_le (fun h => c3 ((nI_leI (a := L) (b := k) (by omega) (by omega)).mpr h))
    refine z_aload_n E dL_cell_6 rfl 0 rfl ?_
    refine z_iload_n E dL_cell_7 rfl 1 rfl ?_
    refine z_sld E hX.1 hX.2.1 hX.2.2 (vp_in_nI h (by omega)) (v := xs k) (by rw [nI_clamp (by omega)]) dL_cell_8 ?_
    refine z_goto (tgt := 25) E dL_cell_9 (by decide) ?_
    exact z_iretM E hr hlocks () rfl (if_pos h).symm (Nat.le_of_ble_eq_true rfl) (Nat.le_of_ble_eq_true rfl) dL_cell_25
