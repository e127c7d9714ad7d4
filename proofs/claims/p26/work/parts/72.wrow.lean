/-! rows for the law's own methods: bodies with handlers, and their calls -/
def zNC (U : State) : Prop := va_Nc "java/lang/IllegalArgumentException" "java/lang/IndexOutOfBoundsException" U ∧ va_Nc "java/lang/IllegalStateException" "java/lang/IndexOutOfBoundsException" U ∧ va_Nc "java/lang/IllegalStateException" "java/lang/IllegalArgumentException" U
theorem zNC.moved {u U : State} (h : u.vm.Alike U.vm) (k : zNC u) : zNC U := ⟨k.1.moved h, k.2.1.moved h, k.2.2.moved h⟩
def zPcN (D : va_G) (tys : List (ClassId × FieldType)) (av : List Value) (ws : va_W) (sz : Nat) : Array Value → State → Prop := fun a U => zPc D tys av ws sz a U ∧ zNC U
theorem zPcN.blind {D : va_G} {tys : List (ClassId × FieldType)} {av : List Value} {ws : va_W} {sz : Nat} : FrameBlind (zPcN D tys av ws sz) := fun a U g mk q => ⟨zPc.blind a U g mk q.1, q.2.moved (u := U) (U := U.calling g mk a) (Vm.Alike.refl U.vm)⟩
def zMT (l : Launch) (y : MethodName) (wl : List Cond) (rm : Room) (D : va_G) (tys : List (ClassId × FieldType)) (av : List Value) (ws : va_W) {S : Type} (post : Int32 → S → Prop) (out : S → va_W) (mc ms : Nat) : Prop := ∀ sz : Nat, Met l y wl rm (zPcN D tys av ws sz) (va_Qi post (fun u => zB D tys (va_A ws sz) (out u)) (va_A ws sz)) mc ms (va_A ws sz)
theorem zMT.fr {l : Launch} {y : MethodName} {wl : List Cond} {rm : Room} {D : va_G} {tys : List (ClassId × FieldType)} {av : List Value} {wc : va_W} {mc ms : Nat} {S : Type} {out : S → va_W} {post : Int32 → S → Prop} (h : zMT l y wl rm D tys av wc post out mc ms) (w1 w2 : va_W) : zMT l y wl rm D tys av (w1 ++ (wc ++ w2)) post (fun u => w1 ++ (out u ++ w2)) mc ms := fun sz => zFrame (h sz) (fun _ _ h => ⟨zPc_part h.1, h.2⟩) (fun a s o t hp hq => by
  obtain ⟨⟨r, u, h1, h2, h3⟩, h4⟩ := hq
  exact ⟨⟨r, u, h1, h2, zB_part hp.1 h3 h4⟩, va_F_part h4⟩) vA_in
theorem zMT.frR {l : Launch} {y : MethodName} {wl : List Cond} {rm : Room} {D : va_G} {tys : List (ClassId × FieldType)} {av : List Value} {wc : va_W} {mc ms : Nat} {S : Type} {out : S → va_W} {post : Int32 → S → Prop} (h : zMT l y wl rm D tys av wc post out mc ms) (w1 : va_W) : zMT l y wl rm D tys av (w1 ++ wc) post (fun u => w1 ++ out u) mc ms := by
  have k := h.fr w1 []
  simp only [List.append_nil] at k
  exact k
theorem zMT.of {l : Launch} {y : MethodName} {wl wl' : List Cond} {rm : Room} {D : va_G} {tys : List (ClassId × FieldType)} {av : List Value} {ws : va_W} {cc : ByteArray} {maxL : Nat} {ret : Option FieldType} {hh : List (Nat × Nat × Nat × Nat)} {mc ms : Nat} {S : Type} {post : Int32 → S → Prop} {out : S → va_W} (hy : plainName y.cls = true) (hw : wl = Cond.codeWith y cc maxL ret hh :: wl') {lv0 : List (Nat × Value)} (hlen : (lg_sl av).length ≤ maxL) (hlv : lv_args 0 av = lv0)
    (body : ∀ (p : Program) (e : Env) (s : State) (m : MethodId) (args : Array Value) (below : List Frame) (meth : Method) (c : Code), zE p s m args c D tys (va_A ws s.heap.size) maxL cc y.cls wl → zSK (va_A ws s.heap.size) s s.heap → zNC s → meth.sig.returnType = ret → meth.locks = false → c.exceptionTable.toList = tableOf hh →
      zW p l e rm s m args below meth c D (va_A ws s.heap.size) (MQ below (va_Qi post (fun u => zB D tys (va_A ws s.heap.size) (out u)) (va_A ws s.heap.size)) args s mc ms (va_A ws s.heap.size)) maxL ws 0 0 0 lv0 []) : zMT l y wl rm D tys av ws post out mc ms := by
  intro sz
  refine MetFree.of_bodyS (code := cc) (maxLocals := maxL) (ret := ret) hy ?_ ?_
  · intro args s m h hn
    obtain ⟨m9, meth, c, hn9, h1, h2, h3, h4, h5, h6, h7, h8⟩ := Cond.codeWith_spec (atoms_spec (ws := wl) h _ (by rw [hw]; exact List.mem_cons_self))
    cases Option.some.inj (hn9.symm.trans hn)
    exact ⟨meth, c, h1, h2, h3, h4, h6, h7⟩
  · intro p e s m args below meth c s₁ B hml hv _
    obtain ⟨⟨rfl, hsz, hP, hK, hD0, hZ⟩, hN⟩ := hv
    subst hsz
    have hh0 : s₁.heap = s.heap := by rw [B.state]; rfl
    have htab : c.exceptionTable.toList = tableOf hh := vx_table (x := y) B (atoms_spec (ws := wl) B.pre _ (by rw [hw]; exact List.mem_cons_self))
    have hD := hD0.self (sz := s.heap.size)
    have hl := lv_entry av (n := maxL) hlen
    rw [hlv] at hl
    have k := body p e s m _ below meth c ⟨B.exec, B.bytes, hml, findClass_of_methodNamed B.named, atoms_spec (ws := wl) B.pre, hK, fun q h => Or.inr h⟩ hZ hN B.returns B.notSynchronized htab s.heap [] _ hP hD va_S.rf hl
    rw [← lg_entry_eq (m := m)] at k
    obtain ⟨t, a1, o, b1, b2, b3⟩ := k s₁ hh0 (Stand.of_body B)
    exact ⟨t, o, a1, b1, b2, b3⟩
section ZWR
variable {p : Program} {l : Launch} {e : Env} {R : Room} {s : State} {m : MethodId} {args : Array Value} {below : List Frame} {meth : Method} {c : Code} {D : va_G} {tys : List (ClassId × FieldType)} {A : Nat → Prop} {Q : State → Prop} {nL : Nat} {cc : ByteArray} {own : String} {Ts : List Cond} {ws : va_W} {cells slots pc : Nat} {lv : List (Nat × Value)} {rest : List Value}
theorem z_callSW (E : zE p s m args c D tys A nL cc own Ts) (hZ : zSK A s s.heap) (hN : zNC s) {y : MethodName} {wl wl' : List Cond} {rm : Room} {bytes : ByteArray} {maxL mc ms n index : Nat} {ret : Option FieldType} {hh : List (Nat × Nat × Nat × Nat)} {As st : List Value} {S : Type} {post : Int32 → S → Prop} {out : S → va_W} (hM : zMT l y wl rm D tys As ws post out mc ms) (hg : GoodIn Ts (va_wsS own index y wl)) (hw : wl = Cond.codeWith y bytes maxL ret hh :: wl') (hmc : rm.cells = mc) (hms : rm.slots = ms) (hd : y.cls ≠ "java/lang/invoke/MethodHandle" ∧ y.cls ≠ "java/lang/invoke/VarHandle" ∧ (parseMethodDescriptor y.desc).map (fun d => d.parameters.length) = some n) (hn : As.length = n) (hR : rm.frames + 1 ≤ R.frames ∧ 8 + (maxL + 11) + rm.locals ≤ R.locals) (hstk : st = As.reverse ++ rest) (hcat : (rest.map fun v => v.category).sum ≤ 8) (hf : cells + mc ≤ R.cells ∧ slots + ms ≤ R.slots) (d : decode cc pc = .ok (.invokestatic index, 3)) (k : ∀ (r : Int32) (u : S), post r u → zW p l e R s m args below meth c D A Q nL (out u) (cells + mc) (slots + ms) (pc + 3) lv (.int r :: rest)) : zW p l e R s m args below meth c D A Q nL ws cells slots pc lv st := fun H locs ls hP hD hS hl => va_calli (vx_runSW (As := As) (rest := rest) ⟨E.hx, E.hb, E.hml, E.hown, E.hts⟩ (hM H.size) (vx_cwSW n E.hts hg hw hmc hms hd hR) ⟨zPcN.blind, fun U hU hW => ⟨zPc.start hP hD hS E.hA E.hK hZ U hU hW, hN.moved hW.alike⟩⟩ rfl hn hl.1 hstk (lv_room hcat) d hf) hS (fun q _ h => zA.in hD hS E.hA q h) (fun q h => zA.in hD hS E.hA q h) (fun r u t H1 locs1 ht hvm hp hB hz1 hk1 hS1 => k r u hp H1 locs1 ls (by rw [← ht]; exact hB.1) (hB.2.2.weaken (fun _ q _ h => zA.in hD hS E.hA q.1 h)) hS1 hl)
/-- caught here -/
theorem z_catch (E : zE p s m args c D tys A nL cc own Ts) {hh : List (Nat × Nat × Nat × Nat)} (htab : c.exceptionTable.toList = tableOf hh) {E0 name : String} {q9 : Nat} {ce : Cell} (pre : List ExceptionTableEntry) (x : ExceptionTableEntry) (suf : List ExceptionTableEntry) (hsplit : tableOf hh = pre ++ x :: suf) (hpass : ∀ z ∈ pre, z.catchType ≠ 0 ∧ ∃ nm : String, Cond.classLink own z.catchType nm ∈ Ts ∧ va_Nc E0 nm s) (hx : covers x pc = true) (h0 : x.catchType ≠ 0) (hlink : Cond.classLink own x.catchType name ∈ Ts) (hcast : (Cond.castable E0 name).before #[] s = true) {H : Heap} {locs : List Loc} {ls : Array Slot} (hP : va_P D vwCl ws H) (hD : va_D A ws) (hS : va_S A s.heap H locs) (hl : lv_has ls nL lv) (h1 : H[q9]? = some ce) (h2 : ce.vm = .none) (h3 : s.vm.findClass E0 = some ce.cls) (k : zW p l e R s m args below meth c D A Q nL ws cells slots x.handlerPc lv [.ref q9]) : vx_W p l e R s m args below meth c H locs cells slots Q (F0 m pc ls rest) q9 :=
  vx_catch E.hown pre x suf (htab.trans hsplit) (fun z hz => Or.inr ⟨(hpass z hz).1, (hpass z hz).2.choose, E.hts _ (hpass z hz).2.choose_spec.1, (hpass z hz).2.choose_spec.2⟩) hx h0 (E.hts _ hlink) hcast h1 h2 h3 (k H locs ls hP hD hS hl)
end ZWR
