section
-- ===== PART A: goes FIRST, ahead of the names: the tables' words, and 'selects' of the private methods out of them =====
/-- a private method of a class that the tables say can be made, by its rows of tables_1 -/
def lw_okq (q : MethodName × Nat) : Prop := (q.1.cls ≠ "java/lang/invoke/MethodHandle" ∧ q.1.cls ≠ "java/lang/invoke/VarHandle") ∧ Cond.instantiable q.1.cls q.2 ∈ tables_1 ∧ Cond.privateMethod q.1 ∈ tables_1 ∧ Cond.instanceMethod q.1 ∈ tables_1
theorem lw_p0 : lw_okq (⟨"java/lang/Throwable", "fillInStackTrace", "(I)Ljava/lang/Throwable;"⟩, 6) := ⟨⟨by decide +kernel, by decide +kernel⟩, List.mem_of_getElem? (i := 212) (by decide +kernel), List.mem_of_getElem? (i := 210) (by decide +kernel), List.mem_of_getElem? (i := 211) (by decide +kernel)⟩
theorem lw_p1 : lw_okq (⟨"LadderClimb$Rig", "leastByWall", "()I"⟩, 10) := ⟨⟨by decide +kernel, by decide +kernel⟩, List.mem_of_getElem? (i := 30) (by decide +kernel), List.mem_of_getElem? (i := 270) (by decide +kernel), List.mem_of_getElem? (i := 271) (by decide +kernel)⟩
theorem lw_p2 : lw_okq (⟨"LadderClimb$Rig", "wallPercents", "()I"⟩, 10) := ⟨⟨by decide +kernel, by decide +kernel⟩, List.mem_of_getElem? (i := 30) (by decide +kernel), List.mem_of_getElem? (i := 274) (by decide +kernel), List.mem_of_getElem? (i := 275) (by decide +kernel)⟩
theorem lw_p3 : lw_okq (⟨"LadderClimb$Rig", "leastByGround", "()I"⟩, 10) := ⟨⟨by decide +kernel, by decide +kernel⟩, List.mem_of_getElem? (i := 30) (by decide +kernel), List.mem_of_getElem? (i := 287) (by decide +kernel), List.mem_of_getElem? (i := 288) (by decide +kernel)⟩
theorem lw_p4 : lw_okq (⟨"LadderClimb$Rig", "groundPercents", "()I"⟩, 10) := ⟨⟨by decide +kernel, by decide +kernel⟩, List.mem_of_getElem? (i := 30) (by decide +kernel), List.mem_of_getElem? (i := 291) (by decide +kernel), List.mem_of_getElem? (i := 292) (by decide +kernel)⟩
theorem lw_p5 : lw_okq (⟨"LadderClimb", "rigOf", "(I)LLadderClimb$Rig;"⟩, 4) := ⟨⟨by decide +kernel, by decide +kernel⟩, List.mem_of_getElem? (i := 15) (by decide +kernel), List.mem_of_getElem? (i := 352) (by decide +kernel), List.mem_of_getElem? (i := 353) (by decide +kernel)⟩
theorem lw_p6 : lw_okq (⟨"LadderClimb$Site", "fall", "(LLadderClimb$Rig;)V"⟩, 3) := ⟨⟨by decide +kernel, by decide +kernel⟩, List.mem_of_getElem? (i := 23) (by decide +kernel), List.mem_of_getElem? (i := 387) (by decide +kernel), List.mem_of_getElem? (i := 388) (by decide +kernel)⟩
def lw_privs_1 : List (MethodName × Nat) := [(⟨"java/lang/Throwable", "fillInStackTrace", "(I)Ljava/lang/Throwable;"⟩, 6), (⟨"LadderClimb$Rig", "leastByWall", "()I"⟩, 10), (⟨"LadderClimb$Rig", "wallPercents", "()I"⟩, 10), (⟨"LadderClimb$Rig", "leastByGround", "()I"⟩, 10), (⟨"LadderClimb$Rig", "groundPercents", "()I"⟩, 10), (⟨"LadderClimb", "rigOf", "(I)LLadderClimb$Rig;"⟩, 4), (⟨"LadderClimb$Site", "fall", "(LLadderClimb$Rig;)V"⟩, 3)]
theorem lw_r1 : ∀ q ∈ lw_privs_1, lw_okq q := List.forall_mem_cons.mpr ⟨lw_p0, List.forall_mem_cons.mpr ⟨lw_p1, List.forall_mem_cons.mpr ⟨lw_p2, List.forall_mem_cons.mpr ⟨lw_p3, List.forall_mem_cons.mpr ⟨lw_p4, List.forall_mem_cons.mpr ⟨lw_p5, List.forall_mem_cons.mpr ⟨lw_p6, fun _ h => absurd h List.not_mem_nil⟩⟩⟩⟩⟩⟩⟩
def lw_privs : List (MethodName × Nat) := lw_privs_1
def lw_tbl : List Cond := k2_sels lw_privs ++ tables_1
theorem lw_privs_ok : ∀ q ∈ lw_privs, lw_okq q := lw_r1
/-- the streams that the claim lets the run draw from -/
abbrev lw_cs : List Choice := [Jvm.Choice.named "NaN.bits"]
theorem lw_bits : nanBits ∈ lw_cs := by first | decide | exact List.mem_cons_self | simp [lw_cs, nanBits]
end
section
/-! ===== BEGIN words of one list among another's, by their places ===== -/
theorem goodIn_r {big : List Cond} (ws : List Cond) (ps : List Nat) (hp : ws = ps.filterMap (fun i => big[i]?)) (h : ws.all goodWord = true) : GoodIn big ws := by
  intro w hw
  have h1 := List.all_eq_true.mp h w hw
  rw [hp] at hw
  obtain ⟨i, -, hi⟩ := List.mem_filterMap.mp hw
  have hm : w ∈ big := by first | exact List.mem_of_getElem? hi | exact List.getElem?_mem hi
  exact ⟨hm, good_of_word h1⟩
theorem goodIn_app {big a b : List Cond} (ha : GoodIn big a) (hb : GoodIn big b) : GoodIn big (a ++ b) := fun w h => (List.mem_append.mp h).elim (ha w) (hb w)
theorem goodIn_ca {big a b : List Cond} {c : Cond} (ha : GoodIn big (c :: a)) (hb : GoodIn big b) : GoodIn big (c :: (a ++ b)) := fun w h => (List.mem_cons.mp h).elim (fun e => ha w (List.mem_cons.mpr (Or.inl e))) (fun h => (List.mem_append.mp h).elim (fun h => ha w (List.mem_cons.mpr (Or.inr h))) (hb w))
theorem goodIn_sub {big ws : List Cond} (hm : ∀ w ∈ ws, w ∈ big) (h : ws.all goodWord = true) : GoodIn big ws := fun w hw => ⟨hm w hw, good_of_word (List.all_eq_true.mp h w hw)⟩
/-! ===== END ===== -/

/-! ===== BEGIN exceptions that leave a method, and their catching by the caller (launches without stack traces) ===== -/
section VXA
/-! The laws vx_back, vx_callV, vx_callS, vx_callSW, vx_throw0, vx_throwS follow proofs of the library, with one case more: JvmDerived/Free/Laws.lean (Back.of_free), Shelf42/LK1.lean (callV, callS), Shelf/KitTraced.lean (throwNew0V, throwNewS). -/
/-- where a method has thrown q: the class by its name, the cell, what was written, the world -/
def vx_T (XC : String → State → State → Prop) (st : State) (q : Addr) (t : State) (mc ms : Nat) (free : Addr → Prop) : Prop :=
  ∃ (E : String) (ce : Cell) (L : List Loc), XC E st t ∧ t.heap[q]? = some ce ∧ ce.vm = .none ∧ st.vm.findClass E = some ce.cls ∧ st.WarmedH t.vm ∧ st.sameButNew ({ t with vm := st.vm } : State) L mc ms ∧ ∀ z ∈ L, free z.base
def vx_Q (Qc : Array Value → State → Outcome → State → Prop) (XC : String → State → State → Prop) (mc ms : Nat) (free : Addr → Prop) : Array Value → State → Outcome → State → Prop := fun a st o t =>
  (Qc a st o t ∧ ∃ L, FrameEnd st o t L mc ms ∧ ∀ q ∈ L, free q.base) ∨ ∃ q, o = .threw q ∧ vx_T XC st q t mc ms free
/-- a callee that returns or throws -/
def vx_Met (l : Launch) (y : MethodName) (ws : List Cond) (rm : Room) (Pc : Array Value → State → Prop) (Qc : Array Value → State → Outcome → State → Prop) (XC : String → State → State → Prop) (mc ms : Nat) (free : Addr → Prop) : Prop :=
  MetFree l y (headSpec ws rm) Pc (fun _ _ _ _ _ => True) (vx_Q Qc XC mc ms free)
def vx_Post (XC : String → State → State → Prop) (mc ms : Nat) (free : Addr → Prop) : Pt → Array Value → Addr → Pt → Prop := fun A a q B =>
  ∃ (g : JFrame) (mk : MethodId) (t : State) (L : List Loc) (E : String) (ce : Cell), B.U.heap = t.heap ∧ B.U.vm = t.vm ∧ XC E (A.U.calling g mk a) t ∧ t.heap[q]? = some ce ∧ ce.vm = .none ∧ A.U.vm.findClass E = some ce.cls ∧ B.locs = A.locs ++ L ∧ (∀ z ∈ L, free z.base) ∧ B.cells = A.cells + mc ∧ B.slots = A.slots + ms
def vx_Back (l : Launch) (R : Room) (p : Program) (e : Env) (below : List Frame) (s : State) (sargs : Array Value) (y : MethodName) (len W9 : Nat)
    (Pre : Pt → Array Value → Prop) (Post : Pt → Array Value → Option Value → Pt → Prop) (PostX : Pt → Array Value → Addr → Pt → Prop) : Prop :=
  ∀ (m : MethodId) (meth : Method) (c : Code) (A : Pt) (g : JFrame) (ig : Instr) (mk : MethodId) (a : Array Value),
    Stand p l e R s m sargs below meth c A.U A.locs A.cells A.slots → g.method = m → g.locals.size = c.maxLocals → decode c.code g.pc = .ok (ig, len) →
    2 * g.monitorRoom + (g.stack.map fun v => v.category).sum ≤ W9 → A.U.methodNamed? y = some mk → Pre A a →
    (∃ (v : Option Value) (B : Pt), Stand p l e R s m sargs below meth c B.U B.locs B.cells B.slots ∧ Post A a v B ∧
      Steps p.tables e below (doInvoke e (A.U.setTop g) [] mk a).1 (B.U.setTop { g with pc := g.pc + len, stack := v.toList ++ g.stack })) ∨
    (∃ (q : Addr) (B : Pt), Stand p l e R s m sargs below meth c B.U B.locs B.cells B.slots ∧ PostX A a q B ∧
      Steps p.tables e below (doInvoke e (A.U.setTop g) [] mk a).1 ((B.U.setTop g).pushFrame (.throwing q)))
section Payer
variable {l : Launch} {R : Room} {p : Program} {e : Env} {below : List Frame} {s : State} {sargs : Array Value} {y : MethodName} {len W9 : Nat}
theorem vx_back {ws : List Cond} {rm : Room} {Pc : Array Value → State → Prop} {Qc : Array Value → State → Outcome → State → Prop} {XC : String → State → State → Prop} {mc ms : Nat} {free : Addr → Prop} {bytes : ByteArray} {maxL : Nat} {ret : Option FieldType}
    (hM : vx_Met l y ws rm Pc Qc XC mc ms free) (hblind : FrameBlind Pc) (hrc : rm.cells = mc) (hrs : rm.slots = ms)
    (hframes : rm.frames + 1 ≤ R.frames) (hlocals : W9 + (maxL + 11) + rm.locals ≤ R.locals)
    (hws : ∀ w ∈ ws, ∀ a' U, s.WarmedH U.vm → w.before a' U = true) (hcode : Cond.code y bytes maxL ret ∈ ws) (hinit : ∀ a' U, s.WarmedH U.vm → (Cond.initialized y.cls).before a' U = true) :
    vx_Back l R p e below s sargs y len W9 (PreOf R mc ms Pc) (PostOf Qc mc ms free) (vx_Post XC mc ms free) := by
  intro m meth c A g ig mk a X hg hsize hdg hW hn hp
  have h1 : (headSpec ws rm).pre.before a A.U = true := atoms_intro fun w hw => hws w hw _ _ X.warmed
  have h2 : (Cond.code y bytes maxL ret).before a A.U = true := hws _ hcode _ _ X.warmed
  have h3 : (Cond.initialized y.cls).before a A.U = true := hinit _ _ X.warmed
  have h4 : A.cells + (headSpec ws rm).room.cells ≤ R.cells := by rw [show (headSpec ws rm).room.cells = mc from hrc]; exact hp.1
  have h5 : A.slots + (headSpec ws rm).room.slots ≤ R.slots := by rw [show (headSpec ws rm).room.slots = ms from hrs]; exact hp.2.1
  have hPc : Pc a (A.U.calling g mk a) := hblind _ _ _ _ hp.2.2
  obtain ⟨U, Ls, c0, s0⟩ := A
  dsimp only [Pt.U, Pt.locs, Pt.cells, Pt.slots] at h1 h2 h3 h4 h5 X hn hPc ⊢
  obtain ⟨methY, cY, hmY, hcY, -, hlY, -, -, -, -⟩ := Cond.code_spec hn h2
  obtain ⟨kY, hkY, -⟩ := className_of_methodNamed hn
  have hinitY : kY.init = .initialized := Cond.initialized_spec (findClass_of_methodNamed hn) hkY h3
  have h : At U g.method c below := by rw [hg]; exact X.here
  have hlocals9 : W9 + (maxL + 11) + (headSpec ws rm).room.locals ≤ R.locals := hlocals
  have happ : (headSpec ws rm).appliesLoose y e.platform (U.calling g mk a) = true :=
    Spec.appliesLoose_calling (g := g) h hdg hn hkY hinitY
      (X.room_calling (g := g) (R' := (headSpec ws rm).room) hsize hmY hcY hframes (by rw [hlY]; omega) h4 h5) h1
  obtain ⟨mid, hmid⟩ := h.above
  have hfr : (U.setTop g).frames = (.java g :: mid) ++ below := by rw [State.frames_setTop' g h.top, hmid]; rfl
  obtain ⟨o, s₂, hsteps, -, hend, hq⟩ := Steps.callFree hM p X.admits X.cas X.clock (acts := []) hfr happ hPc trivial
  have hq' : vx_Q Qc XC mc ms free a (U.calling g mk a) o s₂ := hq
  rw [State.frames_setTop' g h.top] at hend
  obtain ⟨g₀, hg0⟩ := Option.isSome_iff_exists.mp h.top
  obtain ⟨r, hr⟩ := State.topJava?_eq_some.mp hg0
  have hr' : (({ U with heap := s₂.heap, slotsUsed := s₂.slotsUsed } : State).setVm s₂.vm).frames = .java g₀ :: r := hr
  rcases hq' with ⟨hqc, L, hfe, hL⟩ | ⟨q, rfl, E, ce, L, hx, hce, hcv, hcl, hW₂, hsm, hL⟩
  · obtain ⟨⟨v, rfl⟩, hW₂, e2, q2, q3, q4, q5, q6⟩ := id hfe
    have e3 : s₂ = ({ (U.calling g mk a).setFrames s₂.frames with heap := s₂.heap, slotsUsed := s₂.slotsUsed } : State).setVm s₂.vm := by
      have : s₂ = ({ s₂ with vm := (U.calling g mk a).vm } : State).setVm s₂.vm := rfl
      rw [e2] at this
      exact this
    obtain ⟨c₂, i₂, len₂, hc₂, hd₂, hf₂⟩ := hend
    have hW' : U.WarmedH s₂.vm := hW₂
    have hcc : c₂ = c := by
      have h1 : s₂.code? g.method = U.code? g.method := by
        rw [State.code?_eq, State.code?_eq, hW'.alike.method?]
      exact Option.some.inj (hc₂.symm.trans (h1.trans h.code))
    subst hcc
    have hlen : len₂ = len := by rw [hdg] at hd₂; cases hd₂; rfl
    subst hlen
    have hs₂ : s₂ = (({ U with heap := s₂.heap, slotsUsed := s₂.slotsUsed } : State).setVm s₂.vm).setTop { g with pc := g.pc + len₂, stack := v.toList ++ g.stack } := by
      refine e3.trans ?_
      rw [hf₂, State.calling_eq h.top, State.setFrames_setFrames, State.setTop_of_frames _ hr', hr]
      rfl
    have hsame : U.sameButNew ({ U with heap := s₂.heap, slotsUsed := s₂.slotsUsed } : State) L mc ms := by
      refine ⟨?_, q2, q3, q4, q5, q6⟩
      obtain ⟨t, ht, -⟩ := State.frames_cons hr
      show ({ U with heap := s₂.heap, slotsUsed := s₂.slotsUsed } : State) = { U.setFrames U.frames with heap := s₂.heap, slotsUsed := s₂.slotsUsed }
      rw [State.setFrames_self ht]
    subst hg
    refine Or.inl ⟨v, ⟨(({ U with heap := s₂.heap, slotsUsed := s₂.slotsUsed } : State).setVm s₂.vm), Ls ++ L, c0 + mc, s0 + ms⟩,
      ⟨X.admits, X.cas, X.clock, X.frames, X.room, X.hears, X.method, X.code, (X.here.setHeapUsed s₂.heap s₂.slotsUsed).setVm hW'.alike, X.tail, State.WarmedH.trans X.warmed hW', X.limits, X.bytes, X.same.trans (hsame.setVm s.vm)⟩,
      ⟨g, mk, s₂, L, rfl, rfl, hqc, rfl, hL, rfl, rfl⟩, ?_⟩
    show Steps p.tables e below _ ((({ U with heap := s₂.heap, slotsUsed := s₂.slotsUsed } : State).setVm s₂.vm).setTop { g with pc := g.pc + len₂, stack := v.toList ++ g.stack })
    rw [← hs₂]
    exact hsteps
  · obtain ⟨e2, q2, q3, q4, q5, q6⟩ := id hsm
    have e3 : s₂ = ({ (U.calling g mk a).setFrames s₂.frames with heap := s₂.heap, slotsUsed := s₂.slotsUsed } : State).setVm s₂.vm := by
      have : s₂ = ({ s₂ with vm := (U.calling g mk a).vm } : State).setVm s₂.vm := rfl
      rw [e2] at this
      exact this
    have hf₂ : s₂.frames = .throwing q :: .java g :: U.frames.tail := hend
    have hW' : U.WarmedH s₂.vm := hW₂
    have hs₂ : s₂ = ((({ U with heap := s₂.heap, slotsUsed := s₂.slotsUsed } : State).setVm s₂.vm).setTop g).pushFrame (.throwing q) := by
      refine e3.trans ?_
      rw [hf₂, State.calling_eq h.top, State.setFrames_setFrames, State.pushFrame, State.frames_setTop _ hr', State.setTop_of_frames _ hr', State.setFrames_setFrames, hr]
      rfl
    have hsame : U.sameButNew ({ U with heap := s₂.heap, slotsUsed := s₂.slotsUsed } : State) L mc ms := by
      refine ⟨?_, q2, q3, q4, q5, q6⟩
      obtain ⟨t, ht, -⟩ := State.frames_cons hr
      show ({ U with heap := s₂.heap, slotsUsed := s₂.slotsUsed } : State) = { U.setFrames U.frames with heap := s₂.heap, slotsUsed := s₂.slotsUsed }
      rw [State.setFrames_self ht]
    subst hg
    refine Or.inr ⟨q, ⟨(({ U with heap := s₂.heap, slotsUsed := s₂.slotsUsed } : State).setVm s₂.vm), Ls ++ L, c0 + mc, s0 + ms⟩,
      ⟨X.admits, X.cas, X.clock, X.frames, X.room, X.hears, X.method, X.code, (X.here.setHeapUsed s₂.heap s₂.slotsUsed).setVm hW'.alike, X.tail, State.WarmedH.trans X.warmed hW', X.limits, X.bytes, X.same.trans (hsame.setVm s.vm)⟩,
      ⟨g, mk, s₂, L, E, ce, rfl, rfl, hx, hce, hcv, hcl, rfl, hL, rfl, rfl⟩, ?_⟩
    show Steps p.tables e below _ (((({ U with heap := s₂.heap, slotsUsed := s₂.slotsUsed } : State).setVm s₂.vm).setTop g).pushFrame (.throwing q))
    rw [← hs₂]
    exact hsteps
end Payer
section Calls
variable {p : Program} {l : Launch} {e : Env} {R : Room} {s : State} {m : MethodId} {args : Array Value} {below : List Frame} {meth : Method} {c : Code} {T : State} {locs : List Loc} {cells slots : Nat}
theorem vx_callV (X : Stand p l e R s m args below meth c T locs cells slots) (hexec : p.tables.exec = Jvm.exec) {own C : String} {index : Nat} {y : MethodName} {bytes : ByteArray} {maxL : Nat} {ret : Option FieldType}
    (hown : s.vm.findClass own = some m.cls) (hlink : (Cond.methodLink own index y).before args s = true) (hinst : (Cond.instanceMethod y).before args s = true) (hsel : (Cond.selects C y y).before args s = true)
    (hcode : (Cond.code y bytes maxL ret).before args s = true) (hy : y.cls ≠ "java/lang/invoke/MethodHandle" ∧ y.cls ≠ "java/lang/invoke/VarHandle")
    {W9 : Nat} {Pre : Pt → Array Value → Prop} {Post : Pt → Array Value → Option Value → Pt → Prop} {PostX : Pt → Array Value → Addr → Pt → Prop} (hK : vx_Back l R p e below s args y 3 W9 Pre Post PostX)
    {b : Addr} {cellB : Cell} (hcell : T.heap[b]? = some cellB) (hobj : cellB.vm.isStatics = false) (hcls : s.vm.findClass C = some cellB.cls)
    {g : JFrame} (hg : g.method = m) (hsize : g.locals.size = c.maxLocals) {argsL rest : List Value} (hlen : ∀ sig, parseMethodDescriptor y.desc = some sig → argsL.length = sig.parameters.length)
    (hstack : g.stack = argsL.reverse ++ .ref b :: rest) (hW : 2 * g.monitorRoom + (rest.map fun v => v.category).sum ≤ W9) (hdg : decode c.code g.pc = .ok (.invokevirtual index, 3))
    (hpre : ∀ vm₁, s.WarmedH vm₁ → Pre ⟨T.setVm vm₁, locs, cells, slots⟩ (Value.ref b :: argsL).toArray) :
    (∃ (v : Option Value) (vm₁ : Vm) (B : Pt), s.WarmedH vm₁ ∧ Stand p l e R s m args below meth c B.U B.locs B.cells B.slots ∧ Post ⟨T.setVm vm₁, locs, cells, slots⟩ (Value.ref b :: argsL).toArray v B ∧
      ∀ target, Steps p.tables e below (B.U.setTop { g with pc := g.pc + 3, stack := v.toList ++ rest }) target → Steps p.tables e below (T.setTop g) target) ∨
    (∃ (q : Addr) (vm₁ : Vm) (B : Pt), s.WarmedH vm₁ ∧ Stand p l e R s m args below meth c B.U B.locs B.cells B.slots ∧ PostX ⟨T.setVm vm₁, locs, cells, slots⟩ (Value.ref b :: argsL).toArray q B ∧
      Steps p.tables e below (T.setTop g) ((B.U.setTop { g with stack := rest }).pushFrame (.throwing q))) := by
  obtain ⟨mk, methM, hnamed, hmethM, hstM, habM⟩ := Cond.instanceMethod_spec hinst
  obtain ⟨methM', cM, hmethM', -, -, -, -, -, -, hsigM⟩ := Cond.code_spec hnamed hcode
  cases hmethM.symm.trans hmethM'
  obtain ⟨c2, r2, m2, q1, q2, q3, q4, kP, hkP, hkPi⟩ := Cond.selects_spec hsel
  cases hcls.symm.trans q1
  cases (State.methodFound?_of_named hnamed hy).symm.trans q2
  cases hnamed.symm.trans q3
  have hselP : selectMethod e.platform s.vm cellB.cls mk = .method mk := by rw [Launch.admits_selectMethod X.admits]; exact q4
  obtain ⟨vm₁, X₁, hstep₁⟩ := X.invokevirtual hexec hown hlink hnamed hmethM hstM hkP hkPi hy (a := b) (cell := cellB) hcell
    (fun z h => by rw [h] at hobj; cases hobj) hselP hmethM habM hkP hkPi (g := g) hg (argsL := argsL) (rest := rest) (hlen _ hsigM) hstack hdg
  rcases hK m meth c ⟨T.setVm vm₁, locs, cells, slots⟩ { g with stack := rest } (.invokevirtual index) mk (Value.ref b :: argsL).toArray X₁ hg hsize hdg hW (X₁.named hnamed) (hpre vm₁ X₁.warmed) with ⟨v, B, X', hpost, hsteps⟩ | ⟨q, B, X', hpost, hsteps⟩
  · exact Or.inl ⟨v, vm₁, B, X₁.warmed, X', hpost, fun target h => hstep₁ _ fun acts => by rw [doInvoke_state]; exact hsteps.trans h⟩
  · exact Or.inr ⟨q, vm₁, B, X₁.warmed, X', hpost, hstep₁ _ fun acts => by rw [doInvoke_state]; exact hsteps⟩
theorem vx_callS (X : Stand p l e R s m args below meth c T locs cells slots) (hexec : p.tables.exec = Jvm.exec) {own : String} {index : Nat} {y : MethodName} {bytes : ByteArray} {maxL : Nat} {ret : Option FieldType}
    (hown : s.vm.findClass own = some m.cls) (hlink : (Cond.methodLink own index y).before args s = true) (hstat : (Cond.static y).before args s = true) (hinit : (Cond.initialized y.cls).before args s = true)
    (hcode : (Cond.code y bytes maxL ret).before args s = true) (hy : y.cls ≠ "java/lang/invoke/MethodHandle" ∧ y.cls ≠ "java/lang/invoke/VarHandle")
    {W9 : Nat} {Pre : Pt → Array Value → Prop} {Post : Pt → Array Value → Option Value → Pt → Prop} {PostX : Pt → Array Value → Addr → Pt → Prop} (hK : vx_Back l R p e below s args y 3 W9 Pre Post PostX)
    {g : JFrame} (hg : g.method = m) (hsize : g.locals.size = c.maxLocals) {argsL rest : List Value} (hlen : ∀ sig, parseMethodDescriptor y.desc = some sig → argsL.length = sig.parameters.length)
    (hstack : g.stack = argsL.reverse ++ rest) (hW : 2 * g.monitorRoom + (rest.map fun v => v.category).sum ≤ W9) (hdg : decode c.code g.pc = .ok (.invokestatic index, 3))
    (hpre : ∀ vm₁, s.WarmedH vm₁ → Pre ⟨T.setVm vm₁, locs, cells, slots⟩ argsL.toArray) :
    (∃ (v : Option Value) (vm₁ : Vm) (B : Pt), s.WarmedH vm₁ ∧ Stand p l e R s m args below meth c B.U B.locs B.cells B.slots ∧ Post ⟨T.setVm vm₁, locs, cells, slots⟩ argsL.toArray v B ∧
      ∀ target, Steps p.tables e below (B.U.setTop { g with pc := g.pc + 3, stack := v.toList ++ rest }) target → Steps p.tables e below (T.setTop g) target) ∨
    (∃ (q : Addr) (vm₁ : Vm) (B : Pt), s.WarmedH vm₁ ∧ Stand p l e R s m args below meth c B.U B.locs B.cells B.slots ∧ PostX ⟨T.setVm vm₁, locs, cells, slots⟩ argsL.toArray q B ∧
      Steps p.tables e below (T.setTop g) ((B.U.setTop { g with stack := rest }).pushFrame (.throwing q))) := by
  obtain ⟨mk, hnamed⟩ := Cond.code_named hcode
  obtain ⟨methM, cM, hmethM, -, -, -, -, -, -, hsigM⟩ := Cond.code_spec hnamed hcode
  have hstatic : methM.isStatic = true := Cond.static_spec hnamed hmethM hstat
  obtain ⟨kP, hkP, -⟩ := className_of_methodNamed hnamed
  have hinitP : kP.init = .initialized := Cond.initialized_spec (findClass_of_methodNamed hnamed) hkP hinit
  obtain ⟨vm₁, X₁, hstep₁⟩ := X.invokestatic hexec hown hlink hnamed hmethM hstatic hkP hinitP hy (g := g) hg (argsL := argsL) (rest := rest) (hlen _ hsigM) hstack hdg
  rcases hK m meth c ⟨T.setVm vm₁, locs, cells, slots⟩ { g with stack := rest } (.invokestatic index) mk argsL.toArray X₁ hg hsize hdg hW (X₁.named hnamed) (hpre vm₁ X₁.warmed) with ⟨v, B, X', hpost, hsteps⟩ | ⟨q, B, X', hpost, hsteps⟩
  · exact Or.inl ⟨v, vm₁, B, X₁.warmed, X', hpost, fun target h => hstep₁ _ fun acts => by rw [doInvoke_state]; exact hsteps.trans h⟩
  · exact Or.inr ⟨q, vm₁, B, X₁.warmed, X', hpost, hstep₁ _ fun acts => by rw [doInvoke_state]; exact hsteps⟩
end Calls
theorem vx_cls {s : State} {T : State} {vm₁ : Vm} {E : String} {k : ClassId} (hW : s.WarmedH vm₁) (h : (T.setVm vm₁).vm.findClass E = some k) : s.vm.findClass E = some k := by
  have h1 : vm₁.findClass E = some k := h
  rw [hW.alike.findClass] at h1
  exact h1
/-- the method's frame g, with q thrown over it -/
def vx_W (p : Program) (l : Launch) (e : Env) (R : Room) (s : State) (m : MethodId) (args : Array Value) (below : List Frame) (meth : Method) (c : Code) (H : Heap) (locs : List Loc) (cells slots : Nat) (Q : State → Prop) (g : JFrame) (q : Addr) : Prop :=
  ∀ T : State, T.heap = H → Stand p l e R s m args below meth c T locs cells slots → ∃ t, Steps p.tables e below ((T.setTop g).pushFrame (.throwing q)) t ∧ Q t
def vx_Run (p : Program) (l : Launch) (e : Env) (R : Room) (s : State) (m : MethodId) (args : Array Value) (below : List Frame) (meth : Method) (c : Code) (H : Heap) (locs : List Loc) (cells slots mc ms : Nat) (g : JFrame) (rest : List Value) (Qa : State → Outcome → State → Prop) (XC : String → State → State → Prop) (free : Addr → Prop) : Prop :=
  ∀ T : State, T.heap = H → Stand p l e R s m args below meth c T locs cells slots →
    (∃ (v : Option Value) (st₀ t T' : State) (L : List Loc), st₀.heap = H ∧ Stand p l e R s m args below meth c T' (locs ++ L) (cells + mc) (slots + ms) ∧ (∀ q ∈ L, free q.base) ∧ T'.heap = t.heap ∧ T'.vm = t.vm ∧ Qa st₀ (.returned v) t ∧
      Goes p e below T g T' { g with pc := g.pc + 3, stack := v.toList ++ rest }) ∨
    (∃ (q : Addr) (st₀ t T' : State) (L : List Loc) (E : String) (ce : Cell), st₀.heap = H ∧ Stand p l e R s m args below meth c T' (locs ++ L) (cells + mc) (slots + ms) ∧ (∀ z ∈ L, free z.base) ∧ T'.heap = t.heap ∧ T'.vm = t.vm ∧ XC E st₀ t ∧ t.heap[q]? = some ce ∧ ce.vm = .none ∧ s.vm.findClass E = some ce.cls ∧
      Steps p.tables e below (T.setTop g) ((T'.setTop { g with stack := rest }).pushFrame (.throwing q)))
def vx_X {S : Type} (px : S → Prop) (B : String → S → State → Prop) (A : Nat → Prop) : String → State → State → Prop := fun E st t => ∃ u : S, px u ∧ B E u t ∧ va_F A st t
section Runs
variable {p : Program} {l : Launch} {e : Env} {R : Room} {s : State} {m : MethodId} {args : Array Value} {below : List Frame} {meth : Method} {c : Code} {H : Heap} {locs : List Loc} {cells slots : Nat}
variable {y : MethodName} {bytes cc : ByteArray} {maxL nL mc ms n index : Nat} {ret : Option FieldType} {ws : List Cond} {rm : Room} {Pc : Array Value → State → Prop} {Qc : Array Value → State → Outcome → State → Prop} {XC : String → State → State → Prop} {free : Addr → Prop} {Ts : List Cond} {own C : String} {b : Addr} {As rest : List Value} {g : JFrame}
theorem vx_callBack (cb : CallB R s args own index y bytes maxL ret ws rm mc ms n) (hM : vx_Met l y ws rm Pc Qc XC mc ms free) (hbl : FrameBlind Pc) : vx_Back l R p e below s args y 3 8 (PreOf R mc ms Pc) (PostOf Qc mc ms free) (vx_Post XC mc ms free) := by
  obtain ⟨hrc, hrs, hfr, hlo, hws, hcw, -, hini, -⟩ := cb
  exact vx_back (bytes := bytes) (maxL := maxL) (ret := ret) hM hbl hrc hrs hfr hlo hws hcw (fun a' U hW => word_at hW (Or.inl (by first | rfl | simp [Cond.onTables, Cond.keeps, Cond.steady])) hini)
theorem vx_runV (S : CallFix p m c cc nL s args Ts own) (hM : vx_Met l y ws rm Pc Qc XC mc ms free) (cw : CallW R s args own C index y bytes maxL ret ws rm mc ms n) (hp : PreV s H C b Pc As)
    (hg : g.method = m) (hn : As.length = n) (hsize : g.locals.size = nL) (hstack : g.stack = As.reverse ++ .ref b :: rest) (hW : 2 * g.monitorRoom + (rest.map fun v => v.category).sum ≤ 8) (hdg : decode cc g.pc = .ok (.invokevirtual index, 3)) (hf : cells + mc ≤ R.cells ∧ slots + ms ≤ R.slots) :
    vx_Run p l e R s m args below meth c H locs cells slots mc ms g rest (Qc (Value.ref b :: As).toArray) XC free := by
  have hK : vx_Back l R p e below s args y 3 8 (PreOf R mc ms Pc) (PostOf Qc mc ms free) (vx_Post XC mc ms free) := vx_callBack cw.1 hM hp.1
  obtain ⟨⟨-, -, -, -, -, -, hcode, -, hy, hlen, hl⟩, hin, hse⟩ := cw
  obtain ⟨hx, hb, hml, ho, -⟩ := S
  obtain ⟨-, ⟨cellB, hcB, hoB, hclB⟩, hPc⟩ := hp
  intro T hT X
  rcases vx_callV X hx (C := C) (bytes := bytes) (maxL := maxL) (ret := ret) ho hl hin hse hcode hy hK (by rw [hT]; exact hcB) hoB hclB hg (hsize.trans hml.symm) (argsL := As) (rest := rest) (fun sig h => hn.trans (hlen sig h)) hstack hW (by rw [hb]; exact hdg)
    (fun vm₁ hW₁ => ⟨hf.1, hf.2, hPc (T.setVm vm₁) hT hW₁⟩) with ⟨v, vm₁, ⟨U', l2, c2, s2⟩, hW₁, X', ⟨g', mk, t, L, e1, e2, hq, h1, hL, h2, h3⟩, st⟩ | ⟨q, vm₁, ⟨U', l2, c2, s2⟩, hW₁, X', ⟨g', mk, t, L, E, ce, e1, e2, hq, hce, hcv, hcl, h1, hL, h2, h3⟩, st⟩
  · dsimp only [Pt.U, Pt.locs, Pt.cells, Pt.slots] at X' e1 e2 h1 h2 h3 st
    subst h1; subst h2; subst h3
    exact Or.inl ⟨v, (T.setVm vm₁).calling g' mk (Value.ref b :: As).toArray, t, U', L, hT, X', hL, e1, e2, hq, st⟩
  · dsimp only [Pt.U, Pt.locs, Pt.cells, Pt.slots] at X' e1 e2 h1 h2 h3 st hcl
    subst h1; subst h2; subst h3
    exact Or.inr ⟨q, (T.setVm vm₁).calling g' mk (Value.ref b :: As).toArray, t, U', L, E, ce, hT, X', hL, e1, e2, hq, hce, hcv, vx_cls hW₁ hcl, st⟩
theorem vx_runS (S : CallFix p m c cc nL s args Ts own) (hM : vx_Met l y ws rm Pc Qc XC mc ms free) (cw : CallB R s args own index y bytes maxL ret ws rm mc ms n ∧ (Cond.static y).before args s = true) (hp : PreS s H Pc As)
    (hg : g.method = m) (hn : As.length = n) (hsize : g.locals.size = nL) (hstack : g.stack = As.reverse ++ rest) (hW : 2 * g.monitorRoom + (rest.map fun v => v.category).sum ≤ 8) (hdg : decode cc g.pc = .ok (.invokestatic index, 3)) (hf : cells + mc ≤ R.cells ∧ slots + ms ≤ R.slots) :
    vx_Run p l e R s m args below meth c H locs cells slots mc ms g rest (Qc As.toArray) XC free := by
  have hK : vx_Back l R p e below s args y 3 8 (PreOf R mc ms Pc) (PostOf Qc mc ms free) (vx_Post XC mc ms free) := vx_callBack cw.1 hM hp.1
  obtain ⟨⟨-, -, -, -, -, -, hcode, hini, hy, hlen, hl⟩, hstt⟩ := cw
  obtain ⟨hx, hb, hml, ho, -⟩ := S
  intro T hT X
  rcases vx_callS X hx (bytes := bytes) (maxL := maxL) (ret := ret) ho hl hstt hini hcode hy hK hg (hsize.trans hml.symm) (argsL := As) (rest := rest) (fun sig h => hn.trans (hlen sig h)) hstack hW (by rw [hb]; exact hdg)
    (fun vm₁ hW₁ => ⟨hf.1, hf.2, hp.2 (T.setVm vm₁) hT hW₁⟩) with ⟨v, vm₁, ⟨U', l2, c2, s2⟩, hW₁, X', ⟨g', mk, t, L, e1, e2, hq, h1, hL, h2, h3⟩, st⟩ | ⟨q, vm₁, ⟨U', l2, c2, s2⟩, hW₁, X', ⟨g', mk, t, L, E, ce, e1, e2, hq, hce, hcv, hcl, h1, hL, h2, h3⟩, st⟩
  · dsimp only [Pt.U, Pt.locs, Pt.cells, Pt.slots] at X' e1 e2 h1 h2 h3 st
    subst h1; subst h2; subst h3
    exact Or.inl ⟨v, (T.setVm vm₁).calling g' mk As.toArray, t, U', L, hT, X', hL, e1, e2, hq, st⟩
  · dsimp only [Pt.U, Pt.locs, Pt.cells, Pt.slots] at X' e1 e2 h1 h2 h3 st hcl
    subst h1; subst h2; subst h3
    exact Or.inr ⟨q, (T.setVm vm₁).calling g' mk As.toArray, t, U', L, E, ce, hT, X', hL, e1, e2, hq, hce, hcv, vx_cls hW₁ hcl, st⟩
end Runs
section Rows
variable {p : Program} {l : Launch} {e : Env} {R : Room} {s : State} {m : MethodId} {args : Array Value} {below : List Frame} {meth : Method} {c : Code} {H : Heap} {locs : List Loc} {cells slots : Nat} {Q : State → Prop}
variable {mc ms : Nat} {free : Addr → Prop} {A0 A1 : Nat → Prop} {H0 : Heap} {a : Array Value} {pc : Nat} {ls : Array Slot} {st0 rest : List Value}
theorem vx_keep {st₀ t T' : State} {L : List Loc} (h0 : st₀.heap = H) (e1 : T'.heap = t.heap) (hS : va_S A0 H0 H locs) (hA : ∀ q, q < H.size → A1 q → A0 q) (hf : ∀ q, free q → A0 q) (hL : ∀ q ∈ L, free q.base) (hF : va_F A1 st₀ t) :
    H.size ≤ T'.heap.size ∧ (∀ q : Nat, q < H.size → ¬ A1 q → T'.heap[q]? = H[q]?) ∧ va_S A0 H0 T'.heap (locs ++ L) := by
  obtain ⟨hz, hk⟩ := hF
  rw [h0] at hz hk
  exact ⟨by rw [e1]; exact hz, fun q h1 h2 => by rw [e1]; exact hk q h1 h2,
    ⟨Nat.le_trans hS.1 (by rw [e1]; exact hz), fun q h1 h2 => by rw [e1, hk q (Nat.lt_of_lt_of_le h1 hS.1) (fun z => h2 (hA q (Nat.lt_of_lt_of_le h1 hS.1) z))]; exact hS.2.1 q h1 h2, fun q hq => by
      rcases List.mem_append.mp hq with h | h
      · exact hS.2.2 q h
      · exact hf _ (hL q h)⟩⟩
theorem vx_calli {S SX : Type} {post : Int32 → S → Prop} {px : SX → Prop} {B : S → State → Prop} {BX : String → SX → State → Prop} {AX : Nat → Prop} (hr : vx_Run p l e R s m args below meth c H locs cells slots mc ms (F0 m pc ls st0) rest (va_Qi post B A1 a) (vx_X px BX AX) free) (hS : va_S A0 H0 H locs) (hA : ∀ q, q < H.size → A1 q → A0 q) (hf : ∀ q, free q → A0 q) (hAX : ∀ q, q < H.size → AX q → A0 q)
    (kx : ∀ (E : String) (ce : Cell) (q9 : Addr) (u : SX) (t : State) (H1 : Heap) (locs1 : List Loc), t.heap = H1 → s.vm.Alike t.vm → px u → BX E u t → H.size ≤ H1.size → (∀ q : Nat, q < H.size → ¬ AX q → H1[q]? = H[q]?) → va_S A0 H0 H1 locs1 → H1[q9]? = some ce → ce.vm = .none → s.vm.findClass E = some ce.cls → vx_W p l e R s m args below meth c H1 locs1 (cells + mc) (slots + ms) Q (F0 m pc ls rest) q9)
    (kk : ∀ (r : Int32) (u : S) (t : State) (H1 : Heap) (locs1 : List Loc), t.heap = H1 → s.vm.Alike t.vm → post r u → B u t → H.size ≤ H1.size → (∀ q : Nat, q < H.size → ¬ A1 q → H1[q]? = H[q]?) → va_S A0 H0 H1 locs1 → W p l e R s m args below meth c H1 locs1 (cells + mc) (slots + ms) Q (F0 m (pc + 3) ls (.int r :: rest))) : W p l e R s m args below meth c H locs cells slots Q (F0 m pc ls st0) := by
  intro T hT X
  rcases hr T hT X with ⟨v, st₀, t, T', L, h0, X', hL, e1, e2, ⟨⟨r, u, hv, hp, hb⟩, hF⟩, st⟩ | ⟨q, st₀, t, T', L, E, ce, h0, X', hL, e1, e2, ⟨u, hp, hb, hF⟩, hce, hcv, hcl, st⟩
  · cases hv
    obtain ⟨k1, k2, k3⟩ := vx_keep h0 e1 hS hA hf hL hF
    obtain ⟨t2, a1, b1⟩ := kk r u t T'.heap (locs ++ L) e1.symm (by rw [← e2]; exact X'.warmed.alike) hp hb k1 k2 k3 T' rfl X'
    exact ⟨t2, st t2 a1, b1⟩
  · obtain ⟨k1, k2, k3⟩ := vx_keep h0 e1 hS hAX hf hL hF
    obtain ⟨t2, a1, b1⟩ := kx E ce q u t T'.heap (locs ++ L) e1.symm (by rw [← e2]; exact X'.warmed.alike) hp hb k1 k2 k3 (by rw [e1]; exact hce) hcv hcl T' rfl X'
    exact ⟨t2, st.trans a1, b1⟩
theorem vx_calll {S SX : Type} {post : Int64 → S → Prop} {px : SX → Prop} {B : S → State → Prop} {BX : String → SX → State → Prop} {AX : Nat → Prop} (hr : vx_Run p l e R s m args below meth c H locs cells slots mc ms (F0 m pc ls st0) rest (va_Ql post B A1 a) (vx_X px BX AX) free) (hS : va_S A0 H0 H locs) (hA : ∀ q, q < H.size → A1 q → A0 q) (hf : ∀ q, free q → A0 q) (hAX : ∀ q, q < H.size → AX q → A0 q)
    (kx : ∀ (E : String) (ce : Cell) (q9 : Addr) (u : SX) (t : State) (H1 : Heap) (locs1 : List Loc), t.heap = H1 → s.vm.Alike t.vm → px u → BX E u t → H.size ≤ H1.size → (∀ q : Nat, q < H.size → ¬ AX q → H1[q]? = H[q]?) → va_S A0 H0 H1 locs1 → H1[q9]? = some ce → ce.vm = .none → s.vm.findClass E = some ce.cls → vx_W p l e R s m args below meth c H1 locs1 (cells + mc) (slots + ms) Q (F0 m pc ls rest) q9)
    (kk : ∀ (r : Int64) (u : S) (t : State) (H1 : Heap) (locs1 : List Loc), t.heap = H1 → s.vm.Alike t.vm → post r u → B u t → H.size ≤ H1.size → (∀ q : Nat, q < H.size → ¬ A1 q → H1[q]? = H[q]?) → va_S A0 H0 H1 locs1 → W p l e R s m args below meth c H1 locs1 (cells + mc) (slots + ms) Q (F0 m (pc + 3) ls (.long r :: rest))) : W p l e R s m args below meth c H locs cells slots Q (F0 m pc ls st0) := by
  intro T hT X
  rcases hr T hT X with ⟨v, st₀, t, T', L, h0, X', hL, e1, e2, ⟨⟨r, u, hv, hp, hb⟩, hF⟩, st⟩ | ⟨q, st₀, t, T', L, E, ce, h0, X', hL, e1, e2, ⟨u, hp, hb, hF⟩, hce, hcv, hcl, st⟩
  · cases hv
    obtain ⟨k1, k2, k3⟩ := vx_keep h0 e1 hS hA hf hL hF
    obtain ⟨t2, a1, b1⟩ := kk r u t T'.heap (locs ++ L) e1.symm (by rw [← e2]; exact X'.warmed.alike) hp hb k1 k2 k3 T' rfl X'
    exact ⟨t2, st t2 a1, b1⟩
  · obtain ⟨k1, k2, k3⟩ := vx_keep h0 e1 hS hAX hf hL hF
    obtain ⟨t2, a1, b1⟩ := kx E ce q u t T'.heap (locs ++ L) e1.symm (by rw [← e2]; exact X'.warmed.alike) hp hb k1 k2 k3 (by rw [e1]; exact hce) hcv hcl T' rfl X'
    exact ⟨t2, st.trans a1, b1⟩
theorem vx_callf {S SX : Type} {post : UInt32 → S → Prop} {px : SX → Prop} {B : S → State → Prop} {BX : String → SX → State → Prop} {AX : Nat → Prop} (hr : vx_Run p l e R s m args below meth c H locs cells slots mc ms (F0 m pc ls st0) rest (va_Qf post B A1 a) (vx_X px BX AX) free) (hS : va_S A0 H0 H locs) (hA : ∀ q, q < H.size → A1 q → A0 q) (hf : ∀ q, free q → A0 q) (hAX : ∀ q, q < H.size → AX q → A0 q)
    (kx : ∀ (E : String) (ce : Cell) (q9 : Addr) (u : SX) (t : State) (H1 : Heap) (locs1 : List Loc), t.heap = H1 → s.vm.Alike t.vm → px u → BX E u t → H.size ≤ H1.size → (∀ q : Nat, q < H.size → ¬ AX q → H1[q]? = H[q]?) → va_S A0 H0 H1 locs1 → H1[q9]? = some ce → ce.vm = .none → s.vm.findClass E = some ce.cls → vx_W p l e R s m args below meth c H1 locs1 (cells + mc) (slots + ms) Q (F0 m pc ls rest) q9)
    (kk : ∀ (r : UInt32) (u : S) (t : State) (H1 : Heap) (locs1 : List Loc), t.heap = H1 → s.vm.Alike t.vm → post r u → B u t → H.size ≤ H1.size → (∀ q : Nat, q < H.size → ¬ A1 q → H1[q]? = H[q]?) → va_S A0 H0 H1 locs1 → W p l e R s m args below meth c H1 locs1 (cells + mc) (slots + ms) Q (F0 m (pc + 3) ls (.float r :: rest))) : W p l e R s m args below meth c H locs cells slots Q (F0 m pc ls st0) := by
  intro T hT X
  rcases hr T hT X with ⟨v, st₀, t, T', L, h0, X', hL, e1, e2, ⟨⟨r, u, hv, hp, hb⟩, hF⟩, st⟩ | ⟨q, st₀, t, T', L, E, ce, h0, X', hL, e1, e2, ⟨u, hp, hb, hF⟩, hce, hcv, hcl, st⟩
  · cases hv
    obtain ⟨k1, k2, k3⟩ := vx_keep h0 e1 hS hA hf hL hF
    obtain ⟨t2, a1, b1⟩ := kk r u t T'.heap (locs ++ L) e1.symm (by rw [← e2]; exact X'.warmed.alike) hp hb k1 k2 k3 T' rfl X'
    exact ⟨t2, st t2 a1, b1⟩
  · obtain ⟨k1, k2, k3⟩ := vx_keep h0 e1 hS hAX hf hL hF
    obtain ⟨t2, a1, b1⟩ := kx E ce q u t T'.heap (locs ++ L) e1.symm (by rw [← e2]; exact X'.warmed.alike) hp hb k1 k2 k3 (by rw [e1]; exact hce) hcv hcl T' rfl X'
    exact ⟨t2, st.trans a1, b1⟩
theorem vx_calld {S SX : Type} {post : UInt64 → S → Prop} {px : SX → Prop} {B : S → State → Prop} {BX : String → SX → State → Prop} {AX : Nat → Prop} (hr : vx_Run p l e R s m args below meth c H locs cells slots mc ms (F0 m pc ls st0) rest (va_Qd post B A1 a) (vx_X px BX AX) free) (hS : va_S A0 H0 H locs) (hA : ∀ q, q < H.size → A1 q → A0 q) (hf : ∀ q, free q → A0 q) (hAX : ∀ q, q < H.size → AX q → A0 q)
    (kx : ∀ (E : String) (ce : Cell) (q9 : Addr) (u : SX) (t : State) (H1 : Heap) (locs1 : List Loc), t.heap = H1 → s.vm.Alike t.vm → px u → BX E u t → H.size ≤ H1.size → (∀ q : Nat, q < H.size → ¬ AX q → H1[q]? = H[q]?) → va_S A0 H0 H1 locs1 → H1[q9]? = some ce → ce.vm = .none → s.vm.findClass E = some ce.cls → vx_W p l e R s m args below meth c H1 locs1 (cells + mc) (slots + ms) Q (F0 m pc ls rest) q9)
    (kk : ∀ (r : UInt64) (u : S) (t : State) (H1 : Heap) (locs1 : List Loc), t.heap = H1 → s.vm.Alike t.vm → post r u → B u t → H.size ≤ H1.size → (∀ q : Nat, q < H.size → ¬ A1 q → H1[q]? = H[q]?) → va_S A0 H0 H1 locs1 → W p l e R s m args below meth c H1 locs1 (cells + mc) (slots + ms) Q (F0 m (pc + 3) ls (.double r :: rest))) : W p l e R s m args below meth c H locs cells slots Q (F0 m pc ls st0) := by
  intro T hT X
  rcases hr T hT X with ⟨v, st₀, t, T', L, h0, X', hL, e1, e2, ⟨⟨r, u, hv, hp, hb⟩, hF⟩, st⟩ | ⟨q, st₀, t, T', L, E, ce, h0, X', hL, e1, e2, ⟨u, hp, hb, hF⟩, hce, hcv, hcl, st⟩
  · cases hv
    obtain ⟨k1, k2, k3⟩ := vx_keep h0 e1 hS hA hf hL hF
    obtain ⟨t2, a1, b1⟩ := kk r u t T'.heap (locs ++ L) e1.symm (by rw [← e2]; exact X'.warmed.alike) hp hb k1 k2 k3 T' rfl X'
    exact ⟨t2, st t2 a1, b1⟩
  · obtain ⟨k1, k2, k3⟩ := vx_keep h0 e1 hS hAX hf hL hF
    obtain ⟨t2, a1, b1⟩ := kx E ce q u t T'.heap (locs ++ L) e1.symm (by rw [← e2]; exact X'.warmed.alike) hp hb k1 k2 k3 (by rw [e1]; exact hce) hcv hcl T' rfl X'
    exact ⟨t2, st.trans a1, b1⟩
theorem vx_callv {S SX : Type} {post : S → Prop} {px : SX → Prop} {B : S → State → Prop} {BX : String → SX → State → Prop} {AX : Nat → Prop} (hr : vx_Run p l e R s m args below meth c H locs cells slots mc ms (F0 m pc ls st0) rest (va_Qv post B A1 a) (vx_X px BX AX) free) (hS : va_S A0 H0 H locs) (hA : ∀ q, q < H.size → A1 q → A0 q) (hf : ∀ q, free q → A0 q) (hAX : ∀ q, q < H.size → AX q → A0 q)
    (kx : ∀ (E : String) (ce : Cell) (q9 : Addr) (u : SX) (t : State) (H1 : Heap) (locs1 : List Loc), t.heap = H1 → s.vm.Alike t.vm → px u → BX E u t → H.size ≤ H1.size → (∀ q : Nat, q < H.size → ¬ AX q → H1[q]? = H[q]?) → va_S A0 H0 H1 locs1 → H1[q9]? = some ce → ce.vm = .none → s.vm.findClass E = some ce.cls → vx_W p l e R s m args below meth c H1 locs1 (cells + mc) (slots + ms) Q (F0 m pc ls rest) q9)
    (kk : ∀ (u : S) (t : State) (H1 : Heap) (locs1 : List Loc), t.heap = H1 → s.vm.Alike t.vm → post u → B u t → H.size ≤ H1.size → (∀ q : Nat, q < H.size → ¬ A1 q → H1[q]? = H[q]?) → va_S A0 H0 H1 locs1 → W p l e R s m args below meth c H1 locs1 (cells + mc) (slots + ms) Q (F0 m (pc + 3) ls (rest))) : W p l e R s m args below meth c H locs cells slots Q (F0 m pc ls st0) := by
  intro T hT X
  rcases hr T hT X with ⟨v, st₀, t, T', L, h0, X', hL, e1, e2, ⟨⟨u, hv, hp, hb⟩, hF⟩, st⟩ | ⟨q, st₀, t, T', L, E, ce, h0, X', hL, e1, e2, ⟨u, hp, hb, hF⟩, hce, hcv, hcl, st⟩
  · cases hv
    obtain ⟨k1, k2, k3⟩ := vx_keep h0 e1 hS hA hf hL hF
    obtain ⟨t2, a1, b1⟩ := kk u t T'.heap (locs ++ L) e1.symm (by rw [← e2]; exact X'.warmed.alike) hp hb k1 k2 k3 T' rfl X'
    exact ⟨t2, st t2 a1, b1⟩
  · obtain ⟨k1, k2, k3⟩ := vx_keep h0 e1 hS hAX hf hL hF
    obtain ⟨t2, a1, b1⟩ := kx E ce q u t T'.heap (locs ++ L) e1.symm (by rw [← e2]; exact X'.warmed.alike) hp hb k1 k2 k3 (by rw [e1]; exact hce) hcv hcl T' rfl X'
    exact ⟨t2, st.trans a1, b1⟩
/-- caught by the row x of this method's table; the rows ahead don't take it -/
theorem vx_catch {own name : String} {E : String} {ce : Cell} {q : Addr} (hown : s.vm.findClass own = some m.cls) (pre : List ExceptionTableEntry) (x : ExceptionTableEntry) (suf : List ExceptionTableEntry) (hsplit : c.exceptionTable.toList = pre ++ x :: suf)
    (hpass : ∀ z ∈ pre, covers z pc = false ∨ (z.catchType ≠ 0 ∧ ∃ nm : String, (Cond.classLink own z.catchType nm).before args s = true ∧ va_Nc E nm s)) (hx : covers x pc = true) (h0 : x.catchType ≠ 0)
    (hlink : (Cond.classLink own x.catchType name).before args s = true) (hcast : (Cond.castable E name).before args s = true) (hcell : H[q]? = some ce) (hv : ce.vm = .none) (hcl : s.vm.findClass E = some ce.cls)
    (kk : W p l e R s m args below meth c H locs cells slots Q (F0 m x.handlerPc ls [.ref q])) : vx_W p l e R s m args below meth c H locs cells slots Q (F0 m pc ls rest) q := by
  intro T hT X
  have hpl : e.platform.magicAccessors = ({} : Platform).magicAccessors := by rw [X.admits.platform]
  obtain ⟨c3, c4, hc3, hc4, hasg⟩ := Cond.castable_spec hcast
  cases Option.some.inj (hc3.symm.trans hcl)
  obtain ⟨c5, hc5, hcl5⟩ := Cond.classLink_spec hown hlink e.platform hpl
  cases Option.some.inj (hc4.symm.trans hc5)
  obtain ⟨vm', X', st⟩ := X.thenCaughtThrough q (g := F0 m pc ls rest) rfl (Steps.refl _) (by rw [hT]; exact hcell) (by rw [hv]; rfl) (by obtain ⟨k9, h9, -⟩ := Vm.findClass_spec hcl; exact ⟨k9, h9⟩) pre x suf hsplit
    (fun z hz => by
      rcases hpass z hz with h | ⟨hz0, nm, hl1, hn1⟩
      · exact Or.inl h
      · obtain ⟨c6, hc6, hcl6⟩ := Cond.classLink_spec hown hl1 e.platform hpl
        obtain ⟨a8, b8, h1, h2, h3⟩ := hn1
        cases Option.some.inj (h1.symm.trans hcl)
        cases Option.some.inj (h2.symm.trans hc6)
        exact Or.inr ⟨hz0, _, hcl6, h3⟩) hx (Or.inr ⟨h0, c4, hcl5, hasg⟩)
  obtain ⟨t, a1, b1⟩ := kk (T.setVm vm') hT X'
  exact ⟨t, st.trans a1, b1⟩
end Rows
section Ends
variable {p : Program} {l : Launch} {e : Env} {R : Room} {s : State} {m : MethodId} {args : Array Value} {below : List Frame} {meth : Method} {c : Code} {H : Heap} {locs : List Loc} {cells slots : Nat} {Q : State → Prop}
variable {mc ms : Nat} {free : Addr → Prop} {A0 A1 : Nat → Prop} {H0 : Heap} {a : Array Value} {ls : Array Slot} {st0 rest : List Value}
variable {Qc : Array Value → State → Outcome → State → Prop} {XC : String → State → State → Prop}
/-- what a body that may throw owes at its end -/
def vx_MQ (below : List Frame) (Qc : Array Value → State → Outcome → State → Prop) (XC : String → State → State → Prop) (a : Array Value) (s : State) (mc ms : Nat) (free : Addr → Prop) : State → Prop := fun t =>
  ∃ o, t.status = .running ∧ Ended t below o ∧ vx_Q Qc XC mc ms free a s o t
theorem vx_ret {g : JFrame} {mc ms : Nat} (k : W p l e R s m args below meth c H locs cells slots (MQ below Qc args s mc ms free) g) : W p l e R s m args below meth c H locs cells slots (vx_MQ below Qc XC args s mc ms free) g := by
  intro T hT X
  obtain ⟨t, a1, o, b1, b2, b3, b4⟩ := k T hT X
  exact ⟨t, a1, o, b1, b2, Or.inl ⟨b3, b4⟩⟩
/-- not caught here: it goes on to the caller -/
theorem vx_widen {g : JFrame} {q : Addr} {k n : Nat} (h1 : cells ≤ k) (h2 : slots ≤ n) (kk : vx_W p l e R s m args below meth c H locs k n Q g q) : vx_W p l e R s m args below meth c H locs cells slots Q g q := fun T hT X => kk T hT (stand_widen X h1 h2)
theorem vx_out {pc : Nat} {E : String} {ce : Cell} {q : Addr} {mc ms : Nat} (hout : ∀ x ∈ c.exceptionTable.toList, covers x pc = false) (hlocks : meth.locks = false) (hcell : H[q]? = some ce) (hv : ce.vm = .none) (hcl : s.vm.findClass E = some ce.cls)
    (hx : ∀ t : State, t.heap = H → s.vm.Alike t.vm → XC E s t) (hf : ∀ z ∈ locs, free z.base) (hc : cells ≤ mc) (hs : slots ≤ ms) :
    vx_W p l e R s m args below meth c H locs cells slots (vx_MQ below Qc XC args s mc ms free) (F0 m pc ls rest) q := by
  intro T hT X
  obtain ⟨st1, hrun, hend, hW, hsm⟩ := X.leaveThrown q (g := F0 m pc ls rest) rfl rfl rfl hout hlocks
  have hcell9 : (T.setFrames (.throwing q :: below)).heap[q]? = some ce := by
    show T.heap[q]? = some ce
    rw [hT]; exact hcell
  exact ⟨_, st1, .threw q, hrun, hend, Or.inr ⟨q, rfl, E, ce, locs, hx _ hT hW.alike, hcell9, hv, hcl, hW, hsm.mono hc hs, hf⟩⟩
theorem vx_frame {U : State} {k n : Nat} (h : s.sameButNew ({ U with vm := s.vm } : State) locs k n) : s.heap.size ≤ U.heap.size ∧ ∀ q : Nat, q < s.heap.size → (∀ z ∈ locs, z.base ≠ q) → U.heap[q]? = s.heap[q]? := by
  obtain ⟨-, h2, -, -, -, h6⟩ := h
  refine ⟨h2, fun q hq hz => ?_⟩
  obtain ⟨c9, e1, e2, e3, e4⟩ := h6 q _ (Array.getElem?_eq_getElem hq)
  have hs : c9.slots = (s.heap[q]).slots := Array.ext_getElem? fun i => e4 i fun hm => hz _ hm rfl
  have h9 : c9 = s.heap[q] := by
    rw [hs] at e2
    exact e2
  have e5 : U.heap[q]? = some c9 := e1
  rw [e5, h9, Array.getElem?_eq_getElem hq]
/-- the words of a throw but the four that speak of the heap -/
def vx_no (w : Cond) : Bool := decide (w ≠ .isRef (.static Bundle.tN "UNASSIGNED_STACK" Bundle.steD)) && decide (w ≠ .isRef (.static Bundle.tN "SUPPRESSED_SENTINEL" Bundle.listD)) && decide (w ≠ .laysStatic Bundle.tN "UNASSIGNED_STACK" Bundle.steD) && decide (w ≠ .laysStatic Bundle.tN "SUPPRESSED_SENTINEL" Bundle.listD)
def vx_at0 (own : String) (ic : Nat) (X : String) (names : List String) : List Cond := (Bundle.ownAtoms0 own ic X names).filter vx_no
def vx_atS (own : String) (ic : Nat) (X : String) (names : List String) : List Cond := (Bundle.ownAtoms own ic X names).filter vx_no
/-- a word that the tables alone decide, or a good one -/
def vx_ot (w : Cond) : Bool := w.onTables || goodWord w
theorem vx_ot_at {args a' : Array Value} {s U : State} {w : Cond} (hW : s.WarmedH U.vm) (hvm : s.vm = U.vm) (hg : vx_ot w = true) (h : w.before args s = true) : w.before a' U = true := by
  simp only [vx_ot, Bool.or_eq_true] at hg
  rcases hg with hg | hg
  · exact va_tabs hg hvm h
  · exact word_at hW (good_of_word hg) h
/-- a list's words: the good ones out of the method's own list, the others by premises of their own -/
theorem vx_hat {args : Array Value} {s : State} {L B : List Cond} (h1 : ∀ w ∈ L.filter goodWord, w.before args s = true) (h2 : ∀ w ∈ L.filter (fun w => !goodWord w), w ∈ B) (h3 : ∀ w ∈ B, w.before args s = true) : ∀ w ∈ L, w.before args s = true := by
  intro w hw
  by_cases g : goodWord w = true
  · exact h1 w (List.mem_filter.mpr ⟨hw, g⟩)
  · refine h3 w (h2 w (List.mem_filter.mpr ⟨hw, ?_⟩))
    show (!goodWord w) = true
    cases hgw : goodWord w
    · rfl
    · exact absurd hgw g
theorem vx_c {args : Array Value} {s : State} {w : Cond} {B : List Cond} (h : w.before args s = true) (t : ∀ w ∈ B, w.before args s = true) : ∀ w' ∈ w :: B, w'.before args s = true := fun w' h' => (List.mem_cons.mp h').elim (fun e => by rw [e]; exact h) (t w')
theorem vx_n {args : Array Value} {s : State} : ∀ w ∈ ([] : List Cond), w.before args s = true := fun _ h => nomatch h
theorem vx_own {args : Array Value} {s : State} {L : List Cond} (h1 : ∀ w ∈ L.filter vx_no, w.before args s = true)
    (hU : (Cond.isRef (.static Bundle.tN "UNASSIGNED_STACK" Bundle.steD)).before args s = true) (hN : (Cond.isRef (.static Bundle.tN "SUPPRESSED_SENTINEL" Bundle.listD)).before args s = true)
    (lU : (Cond.laysStatic Bundle.tN "UNASSIGNED_STACK" Bundle.steD).before args s = true) (lN : (Cond.laysStatic Bundle.tN "SUPPRESSED_SENTINEL" Bundle.listD).before args s = true) : ∀ w ∈ L, w.before args s = true := by
  intro w hw
  by_cases e1 : w = .isRef (.static Bundle.tN "UNASSIGNED_STACK" Bundle.steD)
  · rw [e1]; exact hU
  · by_cases e2 : w = .isRef (.static Bundle.tN "SUPPRESSED_SENTINEL" Bundle.listD)
    · rw [e2]; exact hN
    · by_cases e3 : w = .laysStatic Bundle.tN "UNASSIGNED_STACK" Bundle.steD
      · rw [e3]; exact lU
      · by_cases e4 : w = .laysStatic Bundle.tN "SUPPRESSED_SENTINEL" Bundle.listD
        · rw [e4]; exact lN
        · exact h1 w (List.mem_filter.mpr ⟨hw, by unfold vx_no; rw [decide_eq_true e1, decide_eq_true e2, decide_eq_true e3, decide_eq_true e4]; rfl⟩)
/-- where a static field lies, its class's statics cell in H -/
def vx_L (C n d : String) (A : Nat → Prop) (U : State) (H : Heap) : Prop := ∃ (c : ClassId) (k : Class) (i : Nat) (f : Field) (a : Nat) (cell : Cell), U.vm.findClass C = some c ∧ U.fieldFound? C n d = some (c, k, i, f) ∧ f.isStatic = true ∧ k.statics = some a ∧ H[a]? = some cell ∧ cell.vm.isStatics = true ∧ cell.cls = c ∧ f.slot < cell.slots.size ∧ k.staticTypes[f.slot]? = some f.type ∧ ¬ A a
theorem vx_L.moved {C n d : String} {A : Nat → Prop} {u U : State} {H : Heap} (hvm : u.vm.Alike U.vm) (h : vx_L C n d A u H) : vx_L C n d A U H := by
  obtain ⟨c, k, i, f, a, cell, h1, h2, h3, h4, h5, h6, h7, h8, h9, h10⟩ := h
  obtain ⟨k', hi', he⟩ := State.fieldFound?_setVm hvm h2
  exact ⟨c, k', i, f, a, cell, by rw [hvm.findClass]; exact h1, hi', h3, by rw [he]; exact h4, h5, h6, h7, h8, by rw [he]; exact h9, h10⟩
theorem vx_L.kept {C n d : String} {A : Nat → Prop} {U : State} {H H1 : Heap} (h : vx_L C n d A U H) (hq : ∀ a : Nat, a < H.size → ¬ A a → H1[a]? = H[a]?) : vx_L C n d A U H1 := by
  obtain ⟨c, k, i, f, a, cell, h1, h2, h3, h4, h5, h6, h7, h8, h9, h10⟩ := h
  exact ⟨c, k, i, f, a, cell, h1, h2, h3, h4, by rw [hq a (Array.getElem?_eq_some_iff.mp h5).1 h10]; exact h5, h6, h7, h8, h9, h10⟩
theorem vx_L.narrow {C n d : String} {A B : Nat → Prop} {U : State} {H : Heap} (h : vx_L C n d A U H) (hAB : ∀ q, B q → A q) : vx_L C n d B U H := by
  obtain ⟨c, k, i, f, a, cell, h1, h2, h3, h4, h5, h6, h7, h8, h9, h10⟩ := h
  exact ⟨c, k, i, f, a, cell, h1, h2, h3, h4, h5, h6, h7, h8, h9, fun z => h10 (hAB _ z)⟩
theorem vx_L.word {C n d : String} {A : Nat → Prop} {s : State} {args : Array Value} (h : vx_L C n d A s s.heap) : (Cond.laysStatic C n d).before args s = true := by
  obtain ⟨c, k, i, f, a, cell, h1, h2, h3, h4, h5, h6, h7, h8, h9, -⟩ := h
  show (Cond.laysStatic C n d).holds args s none s [] = true
  exact Cond.laysStatic_of h1 h2 h3 h4 h5 h6 h7 h8 h9
/-- .. and what it holds: null or some reference -/
def vx_Zq (C n d : String) (A : Nat → Prop) (U : State) (H : Heap) : Prop := va_Zq C n d A U H ∧ vx_L C n d A U H
theorem vx_Zq.moved {C n d : String} {A : Nat → Prop} {u U : State} {H : Heap} (hvm : u.vm.Alike U.vm) (h : vx_Zq C n d A u H) : vx_Zq C n d A U H := ⟨va_Zq.moved hvm h.1, vx_L.moved hvm h.2⟩
theorem vx_Zq.kept {C n d : String} {A : Nat → Prop} {U : State} {H H1 : Heap} (h : vx_Zq C n d A U H) (hq : ∀ a : Nat, a < H.size → ¬ A a → H1[a]? = H[a]?) : vx_Zq C n d A U H1 := ⟨va_Zq.kept h.1 hq, vx_L.kept h.2 hq⟩
theorem vx_Zq.narrow {C n d : String} {A B : Nat → Prop} {U : State} {H : Heap} (h : vx_Zq C n d A U H) (hAB : ∀ q, B q → A q) : vx_Zq C n d B U H := ⟨va_Zq.narrow h.1 hAB, vx_L.narrow h.2 hAB⟩
theorem vx_Zqof {args : Array Value} {s : State} {C n d : String} {A : Nat → Prop} (hl : (Cond.laysStatic C n d).before args s = true) (hini : (Cond.initialized C).before args s = true) (h : (Cond.isRef (.static C n d)).before args s = true) (hA : ∀ a : Nat, a < s.heap.size → ¬ A a) : vx_Zq C n d A s s.heap := by
  refine ⟨va_Zqof hl hini h hA, ?_⟩
  obtain ⟨c, k, i, f, a, cell, h1, h2, h3, h4, h5, h6, h7, h8, h9⟩ := Cond.laysStatic_spec hl
  exact ⟨c, k, i, f, a, cell, h1, h2, h3, h4, h5, h6, h7, h8, h9, hA a (Array.getElem?_eq_some_iff.mp h5).1⟩
theorem vx_isRef {C n d : String} {v : Value} {A : Nat → Prop} {s : State} {args : Array Value} (h : va_Z C n d v A s s.heap) (hv : v.isRef = true) : (Cond.isRef (.static C n d)).before args s = true := by
  obtain ⟨cf, kf, fi, f, a, cell, h1, h2, h3, h4, h5, h6, h7, -⟩ := h
  have he : (Term.static C n d).eval args s none [] s = some v := by
    simp [Term.eval, State.fieldNamed?, h1, h2, h4, h5, h6, h7]
  simp only [Cond.before, Cond.holds, Cond.value, he]
  cases v <;> simp_all [Value.isRef]
theorem vx_isRefq {C n d : String} {A : Nat → Prop} {s : State} {args : Array Value} (h : va_Zq C n d A s s.heap) : (Cond.isRef (.static C n d)).before args s = true := by
  rcases h with h | ⟨t, h⟩
  · exact vx_isRef h rfl
  · exact vx_isRef h rfl
/-- the same frame, seen from here: as if the method were called anew in this heap -/
theorem vx_rebase {T : State} (X : Stand p l e R s m args below meth c T locs cells slots) {R' : Room} (hf : R'.frames ≤ R.frames) (hl : R'.locals ≤ R.locals) (hc : cells + R'.cells ≤ R.cells) (hs : slots + R'.slots ≤ R.slots) :
    Stand p l e R' ((T.setVm s.vm).setFrames (.invoking m args :: below)) m args below meth c T [] 0 0 := by
  have htop : (T.setVm s.vm).topJava?.isSome := X.here.top
  have hF : ((T.setVm s.vm).setFrames (.invoking m args :: below)).frames = .invoking m args :: below := State.frames_setFrames _ (State.cur_lt_of_top htop)
  obtain ⟨g₀, hg0⟩ := Option.isSome_iff_exists.mp htop
  obtain ⟨r, hr⟩ := State.topJava?_eq_some.mp hg0
  have hl9 : e.platform.stackLimits (T.setVm s.vm).me = e.platform.stackLimits s.me := X.limits
  have hb9 : (T.setVm s.vm).me.stackBytes = s.me.stackBytes := X.bytes
  refine ⟨X.admits, X.cas, X.clock, hF, ?_, X.hears, X.method, X.code, X.here, X.tail, X.warmed, ?_, ?_, ?_⟩
  · have h := X.room
    have hU : ((T.setVm s.vm).setFrames (.invoking m args :: below)).localsInUse = s.localsInUse := by
      rw [State.localsInUse_invoking hF (meth := meth) (c := c) X.method X.code, State.localsInUse_invoking X.frames X.method X.code]
    simp only [State.hasRoom, Bool.and_eq_true, decide_eq_true_eq] at h ⊢
    obtain ⟨⟨⟨⟨h1, h2, h3, h4, h5, h6⟩, h7⟩, h8⟩, h9⟩ := h
    rw [X.frames, List.length_cons] at h2 h3
    have q1 := X.heapSize
    have q2 := X.used
    simp only [hF, hU, List.length_cons, State.stackLimits_setFrames, State.stackBytes_setFrames, hl9, hb9]
    refine ⟨⟨⟨⟨by omega, by omega, by omega, by omega, by omega, h6⟩, ?_⟩, ?_⟩, X.book⟩
    · show T.heap.size + R'.cells ≤ e.platform.maxCells
      omega
    · show T.slotsUsed + R'.slots ≤ e.platform.maxSlots
      omega
  · rw [State.stackLimits_setFrames]; rfl
  · rw [State.stackBytes_setFrames]; rfl
  · refine ⟨?_, Nat.le_refl _, Nat.le_refl _, ?_, ?_, fun a c9 h9 => ⟨c9, h9, rfl, rfl, fun _ _ => rfl⟩⟩
    · obtain ⟨t, ht, -⟩ := State.frames_cons hr
      show T.setVm s.vm = { ((T.setVm s.vm).setFrames (.invoking m args :: below)).setFrames (T.setVm s.vm).frames with heap := T.heap, slotsUsed := T.slotsUsed }
      rw [State.setFrames_setFrames, State.setFrames_self ht]
      rfl
    · show T.slotsUsed = T.slotsUsed + ((T.heap.toList.drop T.heap.size).map (·.slots.size)).sum
      rw [List.drop_eq_nil_of_le (Nat.le_of_eq Array.length_toList)]
      rfl
    · show ((T.heap.toList.drop T.heap.size).map (·.slots.size)).sum ≤ 0
      rw [List.drop_eq_nil_of_le (Nat.le_of_eq Array.length_toList)]
      exact Nat.le_refl _
/-- 'throw new E()': new; dup; invokespecial; athrow -/
theorem vx_throw0 {cc : ByteArray} {pc : Nat} (hexec : p.tables.exec = Jvm.exec) (hb : c.code = cc) (hl : l.stackTraces = false) {own cls : String} {names : List String} {ik ic mc ms : Nat} {A : Nat → Prop}
    (hown : s.vm.findClass own = some m.cls) (hcls : Bundle.fit cls = true) (hnames : ∀ n ∈ names, Bundle.fit n = true)
    (hk : (Cond.classLink own ik cls).before args s = true) (hini : (Cond.initialized cls).before args s = true) (hat : ∀ w ∈ vx_at0 own ic cls names, w.before args s = true)
    (hgood : ∀ w ∈ Cond.classLink own ik cls :: Cond.initialized cls :: vx_at0 own ic cls names, vx_ot w = true)
    (hU : vx_Zq Bundle.tN "UNASSIGNED_STACK" Bundle.steD A s s.heap) (hN : vx_Zq Bundle.tN "SUPPRESSED_SENTINEL" Bundle.listD A s s.heap) (hS : va_S A s.heap H locs) (hsize : ls.size = c.maxLocals)
    (d0 : decode cc pc = .ok (.new ik, 3)) (d3 : decode cc (pc + 3) = .ok (.dup, 1)) (d4 : decode cc (pc + 4) = .ok (.invokespecial ic, 3)) (d7 : decode cc (pc + 7) = .ok (.athrow, 1))
    (hout : ∀ x ∈ c.exceptionTable.toList, covers x (pc + 7) = false)
    (hRframes : names.length + 3 < R.frames) (hRlocals : (rest.map fun v => v.category).sum + (13 * (names.length + 1) + 42) ≤ R.locals) (hRcells : cells + 1 ≤ R.cells) (hRslots : slots + 6 ≤ R.slots) (hlocks : meth.locks = false)
    (hx : ∀ t : State, s.vm.Alike t.vm → H.size ≤ t.heap.size → (∀ q : Nat, q < H.size → t.heap[q]? = H[q]?) → XC cls s t)
    (hf : ∀ z ∈ locs, free z.base) (hc : cells + 1 ≤ mc) (hs : slots + 6 ≤ ms) :
    W p l e R s m args below meth c H locs cells slots (vx_MQ below Qc XC args s mc ms free) (F0 m pc ls rest) := by
  intro T hT X
  have htr : e.platform.stackTraces = false := (show e.platform.stackTraces = l.stackTraces by rw [X.admits.platform]).trans hl
  have Y := vx_rebase X (R' := { frames := R.frames, locals := R.locals, cells := 1, slots := 6 }) (Nat.le_refl _) (Nat.le_refl _) hRcells hRslots
  obtain ⟨s', hA⟩ : ∃ z, z = (T.setVm s.vm).setFrames (.invoking m args :: below) := ⟨_, rfl⟩
  rw [← hA] at Y
  have hvm : s'.vm = s.vm := by rw [hA]; rfl
  have hhp : s'.heap = H := by rw [hA]; exact hT
  have hW0 : s.WarmedH s'.vm := by rw [hvm]; exact State.WarmedH.refl s
  have hat' : ∀ w ∈ vx_at0 own ic cls names, w.before args s' = true := fun w hw => vx_ot_at hW0 hvm.symm (hgood w (List.mem_cons_of_mem _ (List.mem_cons_of_mem _ hw))) (hat w hw)
  have hk' : (Cond.classLink own ik cls).before args s' = true := vx_ot_at hW0 hvm.symm (hgood _ List.mem_cons_self) hk
  have hini' : (Cond.initialized cls).before args s' = true := vx_ot_at hW0 hvm.symm (hgood _ (List.mem_cons_of_mem _ List.mem_cons_self)) hini
  have hU' : vx_Zq Bundle.tN "UNASSIGNED_STACK" Bundle.steD A s' s'.heap := by rw [hhp]; exact vx_Zq.moved hW0.alike (hU.kept hS.2.1)
  have hN' : vx_Zq Bundle.tN "SUPPRESSED_SENTINEL" Bundle.listD A s' s'.heap := by rw [hhp]; exact vx_Zq.moved hW0.alike (hN.kept hS.2.1)
  have h : ∀ w ∈ Bundle.ownAtoms0 own ic cls names, w.before args s' = true := vx_own hat' (vx_isRefq hU'.1) (vx_isRefq hN'.1) hU'.2.word hN'.2.word
  have hown' : s'.vm.findClass own = some m.cls := by rw [hvm]; exact hown
  have hins : (Cond.instantiable cls 6).before args s' = true := h _ (by simp [Bundle.ownAtoms0])
  obtain ⟨vm₁, cX, kX, hfX, hkX, -, -, X₁, st1⟩ := Y.newCold hexec (own := own) (C := cls) (index := ik) (n := 6) hown' hk' hins hini'
    (g := F0 m pc ls rest) rfl (by rw [hb]; exact d0) (Nat.le_refl _) (Nat.le_refl _)
  generalize hT1 : (T.setVm vm₁).pushCell { cls := cX, slots := kX.instanceTypes.map defaultValue, vm := .none } = T1 at X₁ st1
  have hcat : (Value.ref T.heap.size).category = 1 := rfl
  have hcellA : T1.heap[T.heap.size]? = some (freshCell cX kX) := by rw [← hT1]; exact State.heap_pushCell_size _ _
  have d3' : decode c.code (pc + 3) = .ok (.dup, 1) := by rw [hb]; exact d3
  obtain ⟨U, hsteps, hrun, hend, hW, hsame, ce, hce, hO⟩ := X₁.ctorThrow0 hexec htr (own := own) (cls := cls) (names := names) (ic := ic) hown' hcls hnames h (fun x hx => nomatch hx) hfX hkX hcellA (by rw [hhp, hT]; exact Nat.le_refl _)
    (g := { method := m, pc := pc + 4, locals := ls, stack := .ref T.heap.size :: .ref T.heap.size :: rest, locked := none }) rfl hsize rfl rfl (rest := rest) rfl
    (by rw [hb]; exact d4) (by rw [hb]; exact d7) hout hRframes (by simp only [List.map_cons, List.sum_cons, hcat]; omega) hlocks
  obtain ⟨f1, f2⟩ := vx_frame hsame
  rw [hhp] at f1 f2
  have hWs : s.WarmedH U.vm := State.WarmedH.trans hW0 hW
  have hcl : s.vm.findClass cls = some ce.cls := by
    have h9 := hO.cls
    rw [hvm] at h9
    exact h9
  have hall : s.sameButNew ({ U with vm := s.vm } : State) locs mc ms := by
    subst hA
    obtain ⟨e1, e2⟩ := hsame
    rw [State.setFrames_setFrames] at e1
    have h2 : (T.setVm s.vm).sameButNew ({ U with vm := s.vm } : State) [] (0 + 1) (0 + 6) := ⟨e1, e2⟩
    have h3 := X.same.trans h2
    rw [List.append_nil] at h3
    exact h3.mono hc hs
  refine ⟨U, ?_, .threw T.heap.size, hrun, hend, Or.inr ⟨T.heap.size, rfl, cls, ce, locs, hx U hWs.alike f1 (fun q hq => f2 q hq (fun z hz => nomatch hz)), hce, hO.vm, hcl, hWs, hall, hf⟩⟩
  refine st1 _ ?_
  show Steps p.tables e below (T1.setTop { method := m, pc := pc + 3, locals := ls, stack := .ref T.heap.size :: rest, locked := none }) _
  jvm_step X₁.here [X₁.here.top, hexec, d3', Value.category]
  exact hsteps
/-- 'throw new E("text")': new; dup; ldc; invokespecial; athrow -/
theorem vx_throwS {cc : ByteArray} {pc : Nat} (hexec : p.tables.exec = Jvm.exec) (hb : c.code = cc) (hl : l.stackTraces = false) {own cls text : String} {names : List String} {ik is ic mc ms sa : Nat} {A : Nat → Prop}
    (hown : s.vm.findClass own = some m.cls) (hcls : Bundle.fit cls = true) (hnames : ∀ n ∈ names, Bundle.fit n = true)
    (hk : (Cond.classLink own ik cls).before args s = true) (hini : (Cond.initialized cls).before args s = true) (hstr : vk_R own is text sa s) (hat : ∀ w ∈ vx_atS own ic cls names, w.before args s = true)
    (hgood : ∀ w ∈ Cond.classLink own ik cls :: Cond.initialized cls :: vx_atS own ic cls names, vx_ot w = true)
    (hU : vx_Zq Bundle.tN "UNASSIGNED_STACK" Bundle.steD A s s.heap) (hN : vx_Zq Bundle.tN "SUPPRESSED_SENTINEL" Bundle.listD A s s.heap) (hS : va_S A s.heap H locs) (hsize : ls.size = c.maxLocals)
    (d0 : decode cc pc = .ok (.new ik, 3)) (d3 : decode cc (pc + 3) = .ok (.dup, 1)) (d4 : decode cc (pc + 4) = .ok (.ldc is, 2)) (d6 : decode cc (pc + 6) = .ok (.invokespecial ic, 3)) (d9 : decode cc (pc + 9) = .ok (.athrow, 1))
    (hout : ∀ x ∈ c.exceptionTable.toList, covers x (pc + 9) = false)
    (hRframes : names.length + 3 < R.frames) (hRlocals : (rest.map fun v => v.category).sum + (13 * (names.length + 1) + 43) ≤ R.locals) (hRcells : cells + 1 ≤ R.cells) (hRslots : slots + 6 ≤ R.slots) (hlocks : meth.locks = false)
    (hx : ∀ t : State, s.vm.Alike t.vm → H.size ≤ t.heap.size → (∀ q : Nat, q < H.size → t.heap[q]? = H[q]?) → XC cls s t)
    (hf : ∀ z ∈ locs, free z.base) (hc : cells + 1 ≤ mc) (hs : slots + 6 ≤ ms) :
    W p l e R s m args below meth c H locs cells slots (vx_MQ below Qc XC args s mc ms free) (F0 m pc ls rest) := by
  intro T hT X
  have htr : e.platform.stackTraces = false := (show e.platform.stackTraces = l.stackTraces by rw [X.admits.platform]).trans hl
  have Y := vx_rebase X (R' := { frames := R.frames, locals := R.locals, cells := 1, slots := 6 }) (Nat.le_refl _) (Nat.le_refl _) hRcells hRslots
  obtain ⟨s', hA⟩ : ∃ z, z = (T.setVm s.vm).setFrames (.invoking m args :: below) := ⟨_, rfl⟩
  rw [← hA] at Y
  have hvm : s'.vm = s.vm := by rw [hA]; rfl
  have hhp : s'.heap = H := by rw [hA]; exact hT
  have hW0 : s.WarmedH s'.vm := by rw [hvm]; exact State.WarmedH.refl s
  have hat' : ∀ w ∈ vx_atS own ic cls names, w.before args s' = true := fun w hw => vx_ot_at hW0 hvm.symm (hgood w (List.mem_cons_of_mem _ (List.mem_cons_of_mem _ hw))) (hat w hw)
  have hk' : (Cond.classLink own ik cls).before args s' = true := vx_ot_at hW0 hvm.symm (hgood _ List.mem_cons_self) hk
  have hini' : (Cond.initialized cls).before args s' = true := vx_ot_at hW0 hvm.symm (hgood _ (List.mem_cons_of_mem _ List.mem_cons_self)) hini
  have hU' : vx_Zq Bundle.tN "UNASSIGNED_STACK" Bundle.steD A s' s'.heap := by rw [hhp]; exact vx_Zq.moved hW0.alike (hU.kept hS.2.1)
  have hN' : vx_Zq Bundle.tN "SUPPRESSED_SENTINEL" Bundle.listD A s' s'.heap := by rw [hhp]; exact vx_Zq.moved hW0.alike (hN.kept hS.2.1)
  have h : ∀ w ∈ Bundle.ownAtoms own ic cls names, w.before args s' = true := vx_own hat' (vx_isRefq hU'.1) (vx_isRefq hN'.1) hU'.2.word hN'.2.word
  have hown' : s'.vm.findClass own = some m.cls := by rw [hvm]; exact hown
  have hins : (Cond.instantiable cls 6).before args s' = true := h _ (by simp [Bundle.ownAtoms])
  obtain ⟨vm₁, cX, kX, hfX, hkX, -, -, X₁, st1⟩ := Y.newCold hexec (own := own) (C := cls) (index := ik) (n := 6) hown' hk' hins hini'
    (g := F0 m pc ls rest) rfl (by rw [hb]; exact d0) (Nat.le_refl _) (Nat.le_refl _)
  generalize hT1 : (T.setVm vm₁).pushCell { cls := cX, slots := kX.instanceTypes.map defaultValue, vm := .none } = T1 at X₁ st1
  have hcat : (Value.ref T.heap.size).category = 1 := rfl
  have hcellA : T1.heap[T.heap.size]? = some (freshCell cX kX) := by rw [← hT1]; exact State.heap_pushCell_size _ _
  have d3' : decode c.code (pc + 3) = .ok (.dup, 1) := by rw [hb]; exact d3
  have d4' : decode c.code (pc + 4) = .ok (.ldc is, 2) := by rw [hb]; exact d4
  have hstr' : vk_R own is text sa s' := vk_R.warm hW0 hstr
  obtain ⟨U, hsteps, hrun, hend, hW, hsame, ce, hce, hO⟩ := X₁.ctorThrowS hexec htr (own := own) (cls := cls) (names := names) (ic := ic) hown' hcls hnames h (fun x hx => nomatch hx) hfX hkX hcellA (by rw [hhp, hT]; exact Nat.le_refl _) (msg := .ref sa) rfl
    (g := { method := m, pc := pc + 6, locals := ls, stack := .ref sa :: .ref T.heap.size :: .ref T.heap.size :: rest, locked := none }) rfl hsize rfl rfl (rest := rest) rfl
    (by rw [hb]; exact d6) (by rw [hb]; exact d9) hout hRframes (by simp only [List.map_cons, List.sum_cons, hcat]; omega) hlocks
  obtain ⟨f1, f2⟩ := vx_frame hsame
  rw [hhp] at f1 f2
  have hWs : s.WarmedH U.vm := State.WarmedH.trans hW0 hW
  have hcl : s.vm.findClass cls = some ce.cls := by
    have h9 := hO.cls
    rw [hvm] at h9
    exact h9
  have hall : s.sameButNew ({ U with vm := s.vm } : State) locs mc ms := by
    subst hA
    obtain ⟨e1, e2⟩ := hsame
    rw [State.setFrames_setFrames] at e1
    have h2 : (T.setVm s.vm).sameButNew ({ U with vm := s.vm } : State) [] (0 + 1) (0 + 6) := ⟨e1, e2⟩
    have h3 := X.same.trans h2
    rw [List.append_nil] at h3
    exact h3.mono hc hs
  refine ⟨U, ?_, .threw T.heap.size, hrun, hend, Or.inr ⟨T.heap.size, rfl, cls, ce, locs, hx U hWs.alike f1 (fun q hq => f2 q hq (fun z hz => nomatch hz)), hce, hO.vm, hcl, hWs, hall, hf⟩⟩
  refine st1 _ ?_
  show Steps p.tables e below (T1.setTop { method := m, pc := pc + 3, locals := ls, stack := .ref T.heap.size :: rest, locked := none }) _
  jvm_step X₁.here [X₁.here.top, hexec, d3', Value.category]
  exact X₁.ldcString hexec (own := own) (text := text) (index := is) (a := sa) hown' hstr'.1 hstr'.2
    (g := { method := m, pc := pc + 4, locals := ls, stack := .ref T.heap.size :: .ref T.heap.size :: rest, locked := none }) rfl d4' _ hsteps
/-- 'throw new E("text")', the text by a wide index -/
theorem vx_throwSW {cc : ByteArray} {pc : Nat} (hexec : p.tables.exec = Jvm.exec) (hb : c.code = cc) (hl : l.stackTraces = false) {own cls text : String} {names : List String} {ik is ic mc ms sa : Nat} {A : Nat → Prop}
    (hown : s.vm.findClass own = some m.cls) (hcls : Bundle.fit cls = true) (hnames : ∀ n ∈ names, Bundle.fit n = true)
    (hk : (Cond.classLink own ik cls).before args s = true) (hini : (Cond.initialized cls).before args s = true) (hstr : vk_R own is text sa s) (hat : ∀ w ∈ vx_atS own ic cls names, w.before args s = true)
    (hgood : ∀ w ∈ Cond.classLink own ik cls :: Cond.initialized cls :: vx_atS own ic cls names, vx_ot w = true)
    (hU : vx_Zq Bundle.tN "UNASSIGNED_STACK" Bundle.steD A s s.heap) (hN : vx_Zq Bundle.tN "SUPPRESSED_SENTINEL" Bundle.listD A s s.heap) (hS : va_S A s.heap H locs) (hsize : ls.size = c.maxLocals)
    (d0 : decode cc pc = .ok (.new ik, 3)) (d3 : decode cc (pc + 3) = .ok (.dup, 1)) (d4 : decode cc (pc + 4) = .ok (.ldc_w is, 3)) (d7 : decode cc (pc + 7) = .ok (.invokespecial ic, 3)) (d10 : decode cc (pc + 10) = .ok (.athrow, 1))
    (hout : ∀ x ∈ c.exceptionTable.toList, covers x (pc + 10) = false)
    (hRframes : names.length + 3 < R.frames) (hRlocals : (rest.map fun v => v.category).sum + (13 * (names.length + 1) + 43) ≤ R.locals) (hRcells : cells + 1 ≤ R.cells) (hRslots : slots + 6 ≤ R.slots) (hlocks : meth.locks = false)
    (hx : ∀ t : State, s.vm.Alike t.vm → H.size ≤ t.heap.size → (∀ q : Nat, q < H.size → t.heap[q]? = H[q]?) → XC cls s t)
    (hf : ∀ z ∈ locs, free z.base) (hc : cells + 1 ≤ mc) (hs : slots + 6 ≤ ms) :
    W p l e R s m args below meth c H locs cells slots (vx_MQ below Qc XC args s mc ms free) (F0 m pc ls rest) := by
  intro T hT X
  have htr : e.platform.stackTraces = false := (show e.platform.stackTraces = l.stackTraces by rw [X.admits.platform]).trans hl
  have Y := vx_rebase X (R' := { frames := R.frames, locals := R.locals, cells := 1, slots := 6 }) (Nat.le_refl _) (Nat.le_refl _) hRcells hRslots
  obtain ⟨s', hA⟩ : ∃ z, z = (T.setVm s.vm).setFrames (.invoking m args :: below) := ⟨_, rfl⟩
  rw [← hA] at Y
  have hvm : s'.vm = s.vm := by rw [hA]; rfl
  have hhp : s'.heap = H := by rw [hA]; exact hT
  have hW0 : s.WarmedH s'.vm := by rw [hvm]; exact State.WarmedH.refl s
  have hat' : ∀ w ∈ vx_atS own ic cls names, w.before args s' = true := fun w hw => vx_ot_at hW0 hvm.symm (hgood w (List.mem_cons_of_mem _ (List.mem_cons_of_mem _ hw))) (hat w hw)
  have hk' : (Cond.classLink own ik cls).before args s' = true := vx_ot_at hW0 hvm.symm (hgood _ List.mem_cons_self) hk
  have hini' : (Cond.initialized cls).before args s' = true := vx_ot_at hW0 hvm.symm (hgood _ (List.mem_cons_of_mem _ List.mem_cons_self)) hini
  have hU' : vx_Zq Bundle.tN "UNASSIGNED_STACK" Bundle.steD A s' s'.heap := by rw [hhp]; exact vx_Zq.moved hW0.alike (hU.kept hS.2.1)
  have hN' : vx_Zq Bundle.tN "SUPPRESSED_SENTINEL" Bundle.listD A s' s'.heap := by rw [hhp]; exact vx_Zq.moved hW0.alike (hN.kept hS.2.1)
  have h : ∀ w ∈ Bundle.ownAtoms own ic cls names, w.before args s' = true := vx_own hat' (vx_isRefq hU'.1) (vx_isRefq hN'.1) hU'.2.word hN'.2.word
  have hown' : s'.vm.findClass own = some m.cls := by rw [hvm]; exact hown
  have hins : (Cond.instantiable cls 6).before args s' = true := h _ (by simp [Bundle.ownAtoms])
  obtain ⟨vm₁, cX, kX, hfX, hkX, -, -, X₁, st1⟩ := Y.newCold hexec (own := own) (C := cls) (index := ik) (n := 6) hown' hk' hins hini'
    (g := F0 m pc ls rest) rfl (by rw [hb]; exact d0) (Nat.le_refl _) (Nat.le_refl _)
  generalize hT1 : (T.setVm vm₁).pushCell { cls := cX, slots := kX.instanceTypes.map defaultValue, vm := .none } = T1 at X₁ st1
  have hcat : (Value.ref T.heap.size).category = 1 := rfl
  have hcellA : T1.heap[T.heap.size]? = some (freshCell cX kX) := by rw [← hT1]; exact State.heap_pushCell_size _ _
  have d3' : decode c.code (pc + 3) = .ok (.dup, 1) := by rw [hb]; exact d3
  have d4' : decode c.code (pc + 4) = .ok (.ldc_w is, 3) := by rw [hb]; exact d4
  have hstr' : vk_R own is text sa s' := vk_R.warm hW0 hstr
  obtain ⟨U, hsteps, hrun, hend, hW, hsame, ce, hce, hO⟩ := X₁.ctorThrowS hexec htr (own := own) (cls := cls) (names := names) (ic := ic) hown' hcls hnames h (fun x hx => nomatch hx) hfX hkX hcellA (by rw [hhp, hT]; exact Nat.le_refl _) (msg := .ref sa) rfl
    (g := { method := m, pc := pc + 7, locals := ls, stack := .ref sa :: .ref T.heap.size :: .ref T.heap.size :: rest, locked := none }) rfl hsize rfl rfl (rest := rest) rfl
    (by rw [hb]; exact d7) (by rw [hb]; exact d10) hout hRframes (by simp only [List.map_cons, List.sum_cons, hcat]; omega) hlocks
  obtain ⟨f1, f2⟩ := vx_frame hsame
  rw [hhp] at f1 f2
  have hWs : s.WarmedH U.vm := State.WarmedH.trans hW0 hW
  have hcl : s.vm.findClass cls = some ce.cls := by
    have h9 := hO.cls
    rw [hvm] at h9
    exact h9
  have hall : s.sameButNew ({ U with vm := s.vm } : State) locs mc ms := by
    subst hA
    obtain ⟨e1, e2⟩ := hsame
    rw [State.setFrames_setFrames] at e1
    have h2 : (T.setVm s.vm).sameButNew ({ U with vm := s.vm } : State) [] (0 + 1) (0 + 6) := ⟨e1, e2⟩
    have h3 := X.same.trans h2
    rw [List.append_nil] at h3
    exact h3.mono hc hs
  refine ⟨U, ?_, .threw T.heap.size, hrun, hend, Or.inr ⟨T.heap.size, rfl, cls, ce, locs, hx U hWs.alike f1 (fun q hq => f2 q hq (fun z hz => nomatch hz)), hce, hO.vm, hcl, hWs, hall, hf⟩⟩
  refine st1 _ ?_
  show Steps p.tables e below (T1.setTop { method := m, pc := pc + 3, locals := ls, stack := .ref T.heap.size :: rest, locked := none }) _
  jvm_step X₁.here [X₁.here.top, hexec, d3', Value.category]
  exact X₁.ldcStringW hexec (own := own) (text := text) (index := is) (a := sa) hown' hstr'.1 hstr'.2
    (g := { method := m, pc := pc + 4, locals := ls, stack := .ref T.heap.size :: .ref T.heap.size :: rest, locked := none }) rfl d4' _ hsteps
end Ends
section Bodies
variable {l : Launch}
theorem vx_ofW {y : MethodName} {ws ws' : List Cond} {rm : Room} {Pc : Array Value → State → Prop} {Qc : Array Value → State → Outcome → State → Prop} {XC : String → State → State → Prop} {mc ms : Nat} {free : Addr → Prop} {cc : ByteArray} {maxL : Nat} {ret : Option FieldType}
    (hy : plainName y.cls = true) (hw : ws = Cond.code y cc maxL ret :: ws')
    (body : ∀ p e s m args below meth c s₁, BodyLoose p l y (headSpec ws rm) cc maxL ret e s m args below meth c s₁ → c.maxLocals = maxL → (∀ x ∈ c.exceptionTable.toList, False) → Pc args s →
      W p l e (headSpec ws rm).room s m args below meth c s.heap [] 0 0 (vx_MQ below Qc XC args s mc ms free) (entryFrame m args maxL)) : vx_Met l y ws rm Pc Qc XC mc ms free := by
  refine MetFree.of_bodyS (code := cc) (maxLocals := maxL) (ret := ret) hy ?_ ?_
  · intro args s m h hn
    obtain ⟨meth, c, h1, h2, h3, h4, h5, h6, -, -⟩ := Cond.code_spec hn (atoms_spec (ws := ws) h _ (by rw [hw]; exact List.mem_cons_self))
    exact ⟨meth, c, h1, h2, h3, h4, h5, h6⟩
  · intro p e s m args below meth c s₁ B hml hP _
    have hh0 : s₁.heap = s.heap := by rw [B.state]; rfl
    have ht : ∀ x ∈ c.exceptionTable.toList, False := by
      obtain ⟨meth9, c9, h1, h2, -, -, -, -, h7, -⟩ := Cond.code_spec B.named (atoms_spec (ws := ws) B.pre _ (by rw [hw]; exact List.mem_cons_self))
      cases Option.some.inj (h1.symm.trans B.method)
      cases Option.some.inj (h2.symm.trans (Stand.of_body B).code)
      intro x hx
      rw [Array.isEmpty_iff.mp h7] at hx
      cases hx
    obtain ⟨t, a1, o, b1, b2, b3⟩ := body p e s m args below meth c s₁ B hml ht hP s₁ hh0 (Stand.of_body B)
    exact ⟨t, o, a1, b1, b2, b3⟩
/-- the table of a body with handlers -/
theorem vx_table {p : Program} {x y : MethodName} {S : Spec} {cc bytes : ByteArray} {maxL maxL' : Nat} {ret ret' : Option FieldType} {e : Env} {s s₁ : State} {m : MethodId} {args : Array Value} {below : List Frame} {meth : Method} {c : Code} {hh : List (Nat × Nat × Nat × Nat)}
    (B : BodyLoose p l y S cc maxL ret e s m args below meth c s₁) (h : (Cond.codeWith y bytes maxL' ret' hh).before args s = true) : c.exceptionTable.toList = tableOf hh := by
  obtain ⟨m9, meth9, c9, hn9, h1, h2, -, -, h6, -⟩ := Cond.codeWith_spec h
  cases Option.some.inj (hn9.symm.trans B.named)
  cases Option.some.inj (h1.symm.trans B.method)
  cases Option.some.inj (h2.symm.trans (Stand.of_body B).code)
  rw [← h6, table_eq]
end Bodies
end VXA
/-! ===== END ===== -/
/-! ===== BEGIN a static call of a method with an exception table ===== -/
section VXS
variable {p : Program} {l : Launch} {e : Env} {R : Room} {s : State} {m : MethodId} {args : Array Value} {below : List Frame} {meth : Method} {c : Code} {T : State} {H : Heap} {locs : List Loc} {cells slots : Nat}
abbrev vx_CSW (R : Room) (s : State) (args : Array Value) (own : String) (index : Nat) (y : MethodName) (bytes : ByteArray) (maxL : Nat) (ret : Option FieldType) (hh : List (Nat × Nat × Nat × Nat)) (ws : List Cond) (rm : Room) (mc ms n : Nat) : Prop :=
  (rm.cells = mc ∧ rm.slots = ms ∧ rm.frames + 1 ≤ R.frames ∧ 8 + (maxL + 11) + rm.locals ≤ R.locals ∧ (∀ w ∈ ws, ∀ (a' : Array Value) (U : State), s.WarmedH U.vm → w.before a' U = true) ∧ Cond.codeWith y bytes maxL ret hh ∈ ws) ∧
  (Cond.codeWith y bytes maxL ret hh).before args s = true ∧ (Cond.initialized y.cls).before args s = true ∧ (y.cls ≠ "java/lang/invoke/MethodHandle" ∧ y.cls ≠ "java/lang/invoke/VarHandle") ∧
  (∀ sig, parseMethodDescriptor y.desc = some sig → n = sig.parameters.length) ∧ (Cond.methodLink own index y).before args s = true ∧ (Cond.static y).before args s = true
theorem vx_cwSW {own : String} {index maxL mc ms : Nat} {y : MethodName} {bytes : ByteArray} {ret : Option FieldType} {hh : List (Nat × Nat × Nat × Nat)} {Ts ws ws' : List Cond} {rm : Room} (n : Nat) (ht : ∀ w ∈ Ts, w.before args s = true) (hT : GoodIn Ts (va_wsS own index y ws)) (hw : ws = Cond.codeWith y bytes maxL ret hh :: ws') (hrc : rm.cells = mc) (hrs : rm.slots = ms)
    (hd : y.cls ≠ "java/lang/invoke/MethodHandle" ∧ y.cls ≠ "java/lang/invoke/VarHandle" ∧ (parseMethodDescriptor y.desc).map (fun d => d.parameters.length) = some n) (hR : rm.frames + 1 ≤ R.frames ∧ 8 + (maxL + 11) + rm.locals ≤ R.locals) :
    vx_CSW R s args own index y bytes maxL ret hh ws rm mc ms n := by
  have ok : ∀ w ∈ va_wsS own index y ws, w.before args s = true := fun w h => ht w (hT w h).1
  have hG : GoodIn Ts ws := fun w h => hT w (by unfold va_wsS; exact List.mem_append_right _ h)
  have hc : Cond.codeWith y bytes maxL ret hh ∈ ws := by rw [hw]; exact List.mem_cons_self
  refine ⟨⟨hrc, hrs, hR.1, hR.2, pay_in ht hG, hc⟩, ht _ (hG _ hc).1, ok _ (by simp [va_wsS]), ⟨hd.1, hd.2.1⟩, fun sig h => ?_, ok _ (by simp [va_wsS]), ok _ (by simp [va_wsS])⟩
  have h2 := hd.2.2
  rw [h] at h2
  exact (Option.some.inj h2).symm
theorem vx_callSW (X : Stand p l e R s m args below meth c T locs cells slots) (hexec : p.tables.exec = Jvm.exec) {own : String} {index : Nat} {y : MethodName} {bytes : ByteArray} {maxL : Nat} {ret : Option FieldType} {hh : List (Nat × Nat × Nat × Nat)}
    (hown : s.vm.findClass own = some m.cls) (hlink : (Cond.methodLink own index y).before args s = true) (hstat : (Cond.static y).before args s = true) (hinit : (Cond.initialized y.cls).before args s = true)
    (hcode : (Cond.codeWith y bytes maxL ret hh).before args s = true) (hy : y.cls ≠ "java/lang/invoke/MethodHandle" ∧ y.cls ≠ "java/lang/invoke/VarHandle")
    {W9 : Nat} {Pre : Pt → Array Value → Prop} {Post : Pt → Array Value → Option Value → Pt → Prop} (hK : Back l R p e below s args y 3 W9 Pre Post)
    {g : JFrame} (hg : g.method = m) (hsize : g.locals.size = c.maxLocals) {argsL rest : List Value} (hlen : ∀ sig, parseMethodDescriptor y.desc = some sig → argsL.length = sig.parameters.length)
    (hstack : g.stack = argsL.reverse ++ rest) (hW : 2 * g.monitorRoom + (rest.map fun v => v.category).sum ≤ W9) (hdg : decode c.code g.pc = .ok (.invokestatic index, 3))
    (hpre : ∀ vm₁, s.WarmedH vm₁ → Pre ⟨T.setVm vm₁, locs, cells, slots⟩ argsL.toArray) :
    ∃ (v : Option Value) (vm₁ : Vm) (B : Pt), s.WarmedH vm₁ ∧ Stand p l e R s m args below meth c B.U B.locs B.cells B.slots ∧ Post ⟨T.setVm vm₁, locs, cells, slots⟩ argsL.toArray v B ∧
      ∀ target, Steps p.tables e below (B.U.setTop { g with pc := g.pc + 3, stack := v.toList ++ rest }) target → Steps p.tables e below (T.setTop g) target := by
  obtain ⟨mk, methM, cM, hnamed, hmethM, -, -, -, -, -, -, hsigM⟩ := Cond.codeWith_spec hcode
  have hstatic : methM.isStatic = true := Cond.static_spec hnamed hmethM hstat
  obtain ⟨kP, hkP, -⟩ := className_of_methodNamed hnamed
  have hinitP : kP.init = .initialized := Cond.initialized_spec (findClass_of_methodNamed hnamed) hkP hinit
  obtain ⟨vm₁, X₁, hstep₁⟩ := X.invokestatic hexec hown hlink hnamed hmethM hstatic hkP hinitP hy (g := g) hg (argsL := argsL) (rest := rest) (hlen _ hsigM) hstack hdg
  obtain ⟨v, B, X', hpost, hsteps⟩ := hK m meth c ⟨T.setVm vm₁, locs, cells, slots⟩ { g with stack := rest } (.invokestatic index) mk argsL.toArray X₁ hg hsize hdg hW (X₁.named hnamed) (hpre vm₁ X₁.warmed)
  exact ⟨v, vm₁, B, X₁.warmed, X', hpost, fun target h => hstep₁ _ fun acts => by rw [doInvoke_state]; exact hsteps.trans h⟩
theorem vx_runSW {y : MethodName} {bytes cc : ByteArray} {maxL nL mc ms n index : Nat} {ret : Option FieldType} {hh : List (Nat × Nat × Nat × Nat)} {ws : List Cond} {rm : Room} {Pc : Array Value → State → Prop} {Qc : Array Value → State → Outcome → State → Prop} {free : Addr → Prop} {Ts : List Cond} {own : String} {As rest : List Value} {g : JFrame}
    (S : CallFix p m c cc nL s args Ts own) (hM : Met l y ws rm Pc Qc mc ms free) (cw : vx_CSW R s args own index y bytes maxL ret hh ws rm mc ms n) (hp : PreS s H Pc As)
    (hg : g.method = m) (hn : As.length = n) (hsize : g.locals.size = nL) (hstack : g.stack = As.reverse ++ rest) (hW : 2 * g.monitorRoom + (rest.map fun v => v.category).sum ≤ 8) (hdg : decode cc g.pc = .ok (.invokestatic index, 3)) (hf : cells + mc ≤ R.cells ∧ slots + ms ≤ R.slots) :
    va_Run p l e R s m args below meth c H locs cells slots mc ms g rest (Qc As.toArray) (free) := by
  obtain ⟨⟨hrc, hrs, hfr, hlo, hws, hcw⟩, hcode, hini, hy, hlen, hl, hstt⟩ := cw
  have hK : Back l R p e below s args y 3 8 (PreOf R mc ms Pc) (PostOf Qc mc ms free) := va_backW (hh := hh) (bytes := bytes) (maxL := maxL) (ret := ret) hM hp.1 hrc hrs hfr hlo hws hcw (fun a' U hW => word_at hW (Or.inl (by first | rfl | simp [Cond.onTables, Cond.keeps, Cond.steady])) hini)
  obtain ⟨hx, hb, hml, ho, -⟩ := S
  intro T hT X
  obtain ⟨v, vm₁, ⟨U', l2, c2, s2⟩, hW₁, X', ⟨g', mk, t, L, e1, e2, hq, h1, hL, h2, h3⟩, st⟩ := vx_callSW X hx (hh := hh) (bytes := bytes) (maxL := maxL) (ret := ret) ho hl hstt hini hcode hy hK hg (hsize.trans hml.symm) (argsL := As) (rest := rest) (fun sig h => hn.trans (hlen sig h)) hstack hW (by rw [hb]; exact hdg)
    (fun vm₁ hW₁ => ⟨hf.1, hf.2, hp.2 (T.setVm vm₁) hT hW₁⟩)
  dsimp only [Pt.U, Pt.locs, Pt.cells, Pt.slots] at X' e1 e2 h1 h2 h3 st
  subst h1; subst h2; subst h3
  exact ⟨v, (T.setVm vm₁).calling g' mk As.toArray, t, U', L, hT, X', hL, e1, e2, hq, st⟩
/-- not caught here, past rows that name other classes: it goes on to the caller -/
theorem vx_outP {p : Program} {l : Launch} {e : Env} {R : Room} {s : State} {m : MethodId} {args : Array Value} {below : List Frame} {meth : Method} {c : Code} {H : Heap} {locs : List Loc} {cells slots : Nat} {free : Addr → Prop} {ls : Array Slot} {rest : List Value} {Qc : Array Value → State → Outcome → State → Prop} {XC : String → State → State → Prop}
    {pc : Nat} {own E : String} {ce : Cell} {q : Addr} {mc ms : Nat} (hown : s.vm.findClass own = some m.cls) (hlocks : meth.locks = false)
    (hpass : ∀ z ∈ c.exceptionTable.toList, covers z pc = false ∨ (z.catchType ≠ 0 ∧ ∃ nm : String, (Cond.classLink own z.catchType nm).before args s = true ∧ va_Nc E nm s)) (hcell : H[q]? = some ce) (hv : ce.vm = .none) (hcl : s.vm.findClass E = some ce.cls)
    (hx : ∀ t : State, t.heap = H → s.vm.Alike t.vm → XC E s t) (hf : ∀ z ∈ locs, free z.base) (hc : cells ≤ mc) (hs : slots ≤ ms) :
    vx_W p l e R s m args below meth c H locs cells slots (vx_MQ below Qc XC args s mc ms free) (F0 m pc ls rest) q := by
  intro T hT X
  have hpl : e.platform.magicAccessors = ({} : Platform).magicAccessors := by rw [X.admits.platform]
  obtain ⟨vm', hW', X', st⟩ := X.outThrough hlocks q (g := F0 m pc ls rest) rfl rfl rfl (cell := ce) (by rw [hT]; exact hcell) (by rw [hv]; rfl)
    (by obtain ⟨k9, h9, -⟩ := Vm.findClass_spec hcl; exact ⟨k9, h9⟩) (fun z hz => by
      rcases hpass z hz with h | ⟨hz0, nm, hl1, hn1⟩
      · exact Or.inl h
      · obtain ⟨c6, hc6, hcl6⟩ := Cond.classLink_spec hown hl1 e.platform hpl
        obtain ⟨a8, b8, h1, h2, h3⟩ := hn1
        cases Option.some.inj (h1.symm.trans hcl)
        cases Option.some.inj (h2.symm.trans hc6)
        exact Or.inr ⟨hz0, _, hcl6, h3⟩)
  obtain ⟨g₀, hfr⟩ := X'.frames_eq
  have hcell9 : ((T.setVm vm').setFrames (.throwing q :: below)).heap[q]? = some ce := by
    show T.heap[q]? = some ce
    rw [hT]; exact hcell
  have hend : Ended ((T.setVm vm').setFrames (.throwing q :: below)) below (.threw q) := State.frames_setFrames _ (State.cur_lt_of_frames hfr)
  refine ⟨(T.setVm vm').setFrames (.throwing q :: below), ?_, .threw q, X'.here.running, hend, Or.inr ⟨q, rfl, E, ce, locs, hx _ hT (X'.ends _).1.alike, hcell9, hv, hcl, (X'.ends _).1, (X'.ends _).2.mono hc hs, hf⟩⟩
  rw [X.pushThrowing_eq]
  exact st
/-- a thing of a world lies in the heap -/
theorem vx_lt {D : va_G} {cl : List vw_C} {ws : va_W} {H1 : Heap} (h : va_P D cl ws H1) {k : Nat} {q : Nat × va_E} (hk : ws[k]? = some q) : q.1 < H1.size := (h k q hk).lt
end VXS
/-! ===== END ===== -/
/-! ===== BEGIN methods with a table of their own: called by a name, returning or throwing ===== -/
section VXH
/-! vx_backW, vx_callVX, vx_callSX, vx_callVW, vx_runVW, vx_runVX, vx_runSX, vx_ofWH follow the same proofs as their sisters above (Free/Laws.lean, Shelf42/LK1.lean); vx_outP calls Shelf42/NT130.lean (outThrough). -/
section
variable {l : Launch} {R : Room} {p : Program} {e : Env} {below : List Frame} {s : State} {sargs : Array Value} {y : MethodName} {len W9 : Nat}
theorem vx_backW {ws : List Cond} {rm : Room} {Pc : Array Value → State → Prop} {Qc : Array Value → State → Outcome → State → Prop} {XC : String → State → State → Prop} {mc ms : Nat} {free : Addr → Prop} {bytes : ByteArray} {maxL : Nat} {ret : Option FieldType} {hh : List (Nat × Nat × Nat × Nat)}
    (hM : vx_Met l y ws rm Pc Qc XC mc ms free) (hblind : FrameBlind Pc) (hrc : rm.cells = mc) (hrs : rm.slots = ms)
    (hframes : rm.frames + 1 ≤ R.frames) (hlocals : W9 + (maxL + 11) + rm.locals ≤ R.locals)
    (hws : ∀ w ∈ ws, ∀ a' U, s.WarmedH U.vm → w.before a' U = true) (hcode : Cond.codeWith y bytes maxL ret hh ∈ ws) (hinit : ∀ a' U, s.WarmedH U.vm → (Cond.initialized y.cls).before a' U = true) :
    vx_Back l R p e below s sargs y len W9 (PreOf R mc ms Pc) (PostOf Qc mc ms free) (vx_Post XC mc ms free) := by
  intro m meth c A g ig mk a X hg hsize hdg hW hn hp
  have h1 : (headSpec ws rm).pre.before a A.U = true := atoms_intro fun w hw => hws w hw _ _ X.warmed
  have h2 : (Cond.codeWith y bytes maxL ret hh).before a A.U = true := hws _ hcode _ _ X.warmed
  have h3 : (Cond.initialized y.cls).before a A.U = true := hinit _ _ X.warmed
  have h4 : A.cells + (headSpec ws rm).room.cells ≤ R.cells := by rw [show (headSpec ws rm).room.cells = mc from hrc]; exact hp.1
  have h5 : A.slots + (headSpec ws rm).room.slots ≤ R.slots := by rw [show (headSpec ws rm).room.slots = ms from hrs]; exact hp.2.1
  have hPc : Pc a (A.U.calling g mk a) := hblind _ _ _ _ hp.2.2
  obtain ⟨U, Ls, c0, s0⟩ := A
  dsimp only [Pt.U, Pt.locs, Pt.cells, Pt.slots] at h1 h2 h3 h4 h5 X hn hPc ⊢
  obtain ⟨m9, methY, cY, hn9, hmY, hcY, -, hlY, -⟩ := Cond.codeWith_spec h2
  cases Option.some.inj (hn9.symm.trans hn)
  obtain ⟨kY, hkY, -⟩ := className_of_methodNamed hn
  have hinitY : kY.init = .initialized := Cond.initialized_spec (findClass_of_methodNamed hn) hkY h3
  have h : At U g.method c below := by rw [hg]; exact X.here
  have hlocals9 : W9 + (maxL + 11) + (headSpec ws rm).room.locals ≤ R.locals := hlocals
  have happ : (headSpec ws rm).appliesLoose y e.platform (U.calling g mk a) = true :=
    Spec.appliesLoose_calling (g := g) h hdg hn hkY hinitY
      (X.room_calling (g := g) (R' := (headSpec ws rm).room) hsize hmY hcY hframes (by rw [hlY]; omega) h4 h5) h1
  obtain ⟨mid, hmid⟩ := h.above
  have hfr : (U.setTop g).frames = (.java g :: mid) ++ below := by rw [State.frames_setTop' g h.top, hmid]; rfl
  obtain ⟨o, s₂, hsteps, -, hend, hq⟩ := Steps.callFree hM p X.admits X.cas X.clock (acts := []) hfr happ hPc trivial
  have hq' : vx_Q Qc XC mc ms free a (U.calling g mk a) o s₂ := hq
  rw [State.frames_setTop' g h.top] at hend
  obtain ⟨g₀, hg0⟩ := Option.isSome_iff_exists.mp h.top
  obtain ⟨r, hr⟩ := State.topJava?_eq_some.mp hg0
  have hr' : (({ U with heap := s₂.heap, slotsUsed := s₂.slotsUsed } : State).setVm s₂.vm).frames = .java g₀ :: r := hr
  rcases hq' with ⟨hqc, L, hfe, hL⟩ | ⟨q, rfl, E, ce, L, hx, hce, hcv, hcl, hW₂, hsm, hL⟩
  · obtain ⟨⟨v, rfl⟩, hW₂, e2, q2, q3, q4, q5, q6⟩ := id hfe
    have e3 : s₂ = ({ (U.calling g mk a).setFrames s₂.frames with heap := s₂.heap, slotsUsed := s₂.slotsUsed } : State).setVm s₂.vm := by
      have : s₂ = ({ s₂ with vm := (U.calling g mk a).vm } : State).setVm s₂.vm := rfl
      rw [e2] at this
      exact this
    obtain ⟨c₂, i₂, len₂, hc₂, hd₂, hf₂⟩ := hend
    have hW' : U.WarmedH s₂.vm := hW₂
    have hcc : c₂ = c := by
      have h1 : s₂.code? g.method = U.code? g.method := by
        rw [State.code?_eq, State.code?_eq, hW'.alike.method?]
      exact Option.some.inj (hc₂.symm.trans (h1.trans h.code))
    subst hcc
    have hlen : len₂ = len := by rw [hdg] at hd₂; cases hd₂; rfl
    subst hlen
    have hs₂ : s₂ = (({ U with heap := s₂.heap, slotsUsed := s₂.slotsUsed } : State).setVm s₂.vm).setTop { g with pc := g.pc + len₂, stack := v.toList ++ g.stack } := by
      refine e3.trans ?_
      rw [hf₂, State.calling_eq h.top, State.setFrames_setFrames, State.setTop_of_frames _ hr', hr]
      rfl
    have hsame : U.sameButNew ({ U with heap := s₂.heap, slotsUsed := s₂.slotsUsed } : State) L mc ms := by
      refine ⟨?_, q2, q3, q4, q5, q6⟩
      obtain ⟨t, ht, -⟩ := State.frames_cons hr
      show ({ U with heap := s₂.heap, slotsUsed := s₂.slotsUsed } : State) = { U.setFrames U.frames with heap := s₂.heap, slotsUsed := s₂.slotsUsed }
      rw [State.setFrames_self ht]
    subst hg
    refine Or.inl ⟨v, ⟨(({ U with heap := s₂.heap, slotsUsed := s₂.slotsUsed } : State).setVm s₂.vm), Ls ++ L, c0 + mc, s0 + ms⟩,
      ⟨X.admits, X.cas, X.clock, X.frames, X.room, X.hears, X.method, X.code, (X.here.setHeapUsed s₂.heap s₂.slotsUsed).setVm hW'.alike, X.tail, State.WarmedH.trans X.warmed hW', X.limits, X.bytes, X.same.trans (hsame.setVm s.vm)⟩,
      ⟨g, mk, s₂, L, rfl, rfl, hqc, rfl, hL, rfl, rfl⟩, ?_⟩
    show Steps p.tables e below _ ((({ U with heap := s₂.heap, slotsUsed := s₂.slotsUsed } : State).setVm s₂.vm).setTop { g with pc := g.pc + len₂, stack := v.toList ++ g.stack })
    rw [← hs₂]
    exact hsteps
  · obtain ⟨e2, q2, q3, q4, q5, q6⟩ := id hsm
    have e3 : s₂ = ({ (U.calling g mk a).setFrames s₂.frames with heap := s₂.heap, slotsUsed := s₂.slotsUsed } : State).setVm s₂.vm := by
      have : s₂ = ({ s₂ with vm := (U.calling g mk a).vm } : State).setVm s₂.vm := rfl
      rw [e2] at this
      exact this
    have hf₂ : s₂.frames = .throwing q :: .java g :: U.frames.tail := hend
    have hW' : U.WarmedH s₂.vm := hW₂
    have hs₂ : s₂ = ((({ U with heap := s₂.heap, slotsUsed := s₂.slotsUsed } : State).setVm s₂.vm).setTop g).pushFrame (.throwing q) := by
      refine e3.trans ?_
      rw [hf₂, State.calling_eq h.top, State.setFrames_setFrames, State.pushFrame, State.frames_setTop _ hr', State.setTop_of_frames _ hr', State.setFrames_setFrames, hr]
      rfl
    have hsame : U.sameButNew ({ U with heap := s₂.heap, slotsUsed := s₂.slotsUsed } : State) L mc ms := by
      refine ⟨?_, q2, q3, q4, q5, q6⟩
      obtain ⟨t, ht, -⟩ := State.frames_cons hr
      show ({ U with heap := s₂.heap, slotsUsed := s₂.slotsUsed } : State) = { U.setFrames U.frames with heap := s₂.heap, slotsUsed := s₂.slotsUsed }
      rw [State.setFrames_self ht]
    subst hg
    refine Or.inr ⟨q, ⟨(({ U with heap := s₂.heap, slotsUsed := s₂.slotsUsed } : State).setVm s₂.vm), Ls ++ L, c0 + mc, s0 + ms⟩,
      ⟨X.admits, X.cas, X.clock, X.frames, X.room, X.hears, X.method, X.code, (X.here.setHeapUsed s₂.heap s₂.slotsUsed).setVm hW'.alike, X.tail, State.WarmedH.trans X.warmed hW', X.limits, X.bytes, X.same.trans (hsame.setVm s.vm)⟩,
      ⟨g, mk, s₂, L, E, ce, rfl, rfl, hx, hce, hcv, hcl, rfl, hL, rfl, rfl⟩, ?_⟩
    show Steps p.tables e below _ (((({ U with heap := s₂.heap, slotsUsed := s₂.slotsUsed } : State).setVm s₂.vm).setTop g).pushFrame (.throwing q))
    rw [← hs₂]
    exact hsteps
end
variable {p : Program} {l : Launch} {e : Env} {R : Room} {s : State} {m : MethodId} {args : Array Value} {below : List Frame} {meth : Method} {c : Code} {T : State} {H : Heap} {locs : List Loc} {cells slots : Nat}
theorem vx_callVX (X : Stand p l e R s m args below meth c T locs cells slots) (hexec : p.tables.exec = Jvm.exec) {own C : String} {index : Nat} {y : MethodName} {bytes : ByteArray} {maxL : Nat} {ret : Option FieldType} {hh : List (Nat × Nat × Nat × Nat)}
    (hown : s.vm.findClass own = some m.cls) (hlink : (Cond.methodLink own index y).before args s = true) (hinst : (Cond.instanceMethod y).before args s = true) (hsel : (Cond.selects C y y).before args s = true)
    (hcode : (Cond.codeWith y bytes maxL ret hh).before args s = true) (hy : y.cls ≠ "java/lang/invoke/MethodHandle" ∧ y.cls ≠ "java/lang/invoke/VarHandle")
    {W9 : Nat} {Pre : Pt → Array Value → Prop} {Post : Pt → Array Value → Option Value → Pt → Prop} {PostX : Pt → Array Value → Addr → Pt → Prop} (hK : vx_Back l R p e below s args y 3 W9 Pre Post PostX)
    {b : Addr} {cellB : Cell} (hcell : T.heap[b]? = some cellB) (hobj : cellB.vm.isStatics = false) (hcls : s.vm.findClass C = some cellB.cls)
    {g : JFrame} (hg : g.method = m) (hsize : g.locals.size = c.maxLocals) {argsL rest : List Value} (hlen : ∀ sig, parseMethodDescriptor y.desc = some sig → argsL.length = sig.parameters.length)
    (hstack : g.stack = argsL.reverse ++ .ref b :: rest) (hW : 2 * g.monitorRoom + (rest.map fun v => v.category).sum ≤ W9) (hdg : decode c.code g.pc = .ok (.invokevirtual index, 3))
    (hpre : ∀ vm₁, s.WarmedH vm₁ → Pre ⟨T.setVm vm₁, locs, cells, slots⟩ (Value.ref b :: argsL).toArray) :
    (∃ (v : Option Value) (vm₁ : Vm) (B : Pt), s.WarmedH vm₁ ∧ Stand p l e R s m args below meth c B.U B.locs B.cells B.slots ∧ Post ⟨T.setVm vm₁, locs, cells, slots⟩ (Value.ref b :: argsL).toArray v B ∧
      ∀ target, Steps p.tables e below (B.U.setTop { g with pc := g.pc + 3, stack := v.toList ++ rest }) target → Steps p.tables e below (T.setTop g) target) ∨
    (∃ (q : Addr) (vm₁ : Vm) (B : Pt), s.WarmedH vm₁ ∧ Stand p l e R s m args below meth c B.U B.locs B.cells B.slots ∧ PostX ⟨T.setVm vm₁, locs, cells, slots⟩ (Value.ref b :: argsL).toArray q B ∧
      Steps p.tables e below (T.setTop g) ((B.U.setTop { g with stack := rest }).pushFrame (.throwing q))) := by
  obtain ⟨mk, methM, hnamed, hmethM, hstM, habM⟩ := Cond.instanceMethod_spec hinst
  obtain ⟨m8, methM', cM, hn8, hmethM', -, -, -, -, -, -, hsigM⟩ := Cond.codeWith_spec hcode
  cases Option.some.inj (hn8.symm.trans hnamed)
  cases hmethM.symm.trans hmethM'
  obtain ⟨c2, r2, m2, q1, q2, q3, q4, kP, hkP, hkPi⟩ := Cond.selects_spec hsel
  cases hcls.symm.trans q1
  cases (State.methodFound?_of_named hnamed hy).symm.trans q2
  cases hnamed.symm.trans q3
  have hselP : selectMethod e.platform s.vm cellB.cls mk = .method mk := by rw [Launch.admits_selectMethod X.admits]; exact q4
  obtain ⟨vm₁, X₁, hstep₁⟩ := X.invokevirtual hexec hown hlink hnamed hmethM hstM hkP hkPi hy (a := b) (cell := cellB) hcell
    (fun z h => by rw [h] at hobj; cases hobj) hselP hmethM habM hkP hkPi (g := g) hg (argsL := argsL) (rest := rest) (hlen _ hsigM) hstack hdg
  rcases hK m meth c ⟨T.setVm vm₁, locs, cells, slots⟩ { g with stack := rest } (.invokevirtual index) mk (Value.ref b :: argsL).toArray X₁ hg hsize hdg hW (X₁.named hnamed) (hpre vm₁ X₁.warmed) with ⟨v, B, X', hpost, hsteps⟩ | ⟨q, B, X', hpost, hsteps⟩
  · exact Or.inl ⟨v, vm₁, B, X₁.warmed, X', hpost, fun target h => hstep₁ _ fun acts => by rw [doInvoke_state]; exact hsteps.trans h⟩
  · exact Or.inr ⟨q, vm₁, B, X₁.warmed, X', hpost, hstep₁ _ fun acts => by rw [doInvoke_state]; exact hsteps⟩
theorem vx_callSX (X : Stand p l e R s m args below meth c T locs cells slots) (hexec : p.tables.exec = Jvm.exec) {own : String} {index : Nat} {y : MethodName} {bytes : ByteArray} {maxL : Nat} {ret : Option FieldType} {hh : List (Nat × Nat × Nat × Nat)}
    (hown : s.vm.findClass own = some m.cls) (hlink : (Cond.methodLink own index y).before args s = true) (hstat : (Cond.static y).before args s = true) (hinit : (Cond.initialized y.cls).before args s = true)
    (hcode : (Cond.codeWith y bytes maxL ret hh).before args s = true) (hy : y.cls ≠ "java/lang/invoke/MethodHandle" ∧ y.cls ≠ "java/lang/invoke/VarHandle")
    {W9 : Nat} {Pre : Pt → Array Value → Prop} {Post : Pt → Array Value → Option Value → Pt → Prop} {PostX : Pt → Array Value → Addr → Pt → Prop} (hK : vx_Back l R p e below s args y 3 W9 Pre Post PostX)
    {g : JFrame} (hg : g.method = m) (hsize : g.locals.size = c.maxLocals) {argsL rest : List Value} (hlen : ∀ sig, parseMethodDescriptor y.desc = some sig → argsL.length = sig.parameters.length)
    (hstack : g.stack = argsL.reverse ++ rest) (hW : 2 * g.monitorRoom + (rest.map fun v => v.category).sum ≤ W9) (hdg : decode c.code g.pc = .ok (.invokestatic index, 3))
    (hpre : ∀ vm₁, s.WarmedH vm₁ → Pre ⟨T.setVm vm₁, locs, cells, slots⟩ argsL.toArray) :
    (∃ (v : Option Value) (vm₁ : Vm) (B : Pt), s.WarmedH vm₁ ∧ Stand p l e R s m args below meth c B.U B.locs B.cells B.slots ∧ Post ⟨T.setVm vm₁, locs, cells, slots⟩ argsL.toArray v B ∧
      ∀ target, Steps p.tables e below (B.U.setTop { g with pc := g.pc + 3, stack := v.toList ++ rest }) target → Steps p.tables e below (T.setTop g) target) ∨
    (∃ (q : Addr) (vm₁ : Vm) (B : Pt), s.WarmedH vm₁ ∧ Stand p l e R s m args below meth c B.U B.locs B.cells B.slots ∧ PostX ⟨T.setVm vm₁, locs, cells, slots⟩ argsL.toArray q B ∧
      Steps p.tables e below (T.setTop g) ((B.U.setTop { g with stack := rest }).pushFrame (.throwing q))) := by
  obtain ⟨mk, methM, cM, hnamed, hmethM, -, -, -, -, -, -, hsigM⟩ := Cond.codeWith_spec hcode
  have hstatic : methM.isStatic = true := Cond.static_spec hnamed hmethM hstat
  obtain ⟨kP, hkP, -⟩ := className_of_methodNamed hnamed
  have hinitP : kP.init = .initialized := Cond.initialized_spec (findClass_of_methodNamed hnamed) hkP hinit
  obtain ⟨vm₁, X₁, hstep₁⟩ := X.invokestatic hexec hown hlink hnamed hmethM hstatic hkP hinitP hy (g := g) hg (argsL := argsL) (rest := rest) (hlen _ hsigM) hstack hdg
  rcases hK m meth c ⟨T.setVm vm₁, locs, cells, slots⟩ { g with stack := rest } (.invokestatic index) mk argsL.toArray X₁ hg hsize hdg hW (X₁.named hnamed) (hpre vm₁ X₁.warmed) with ⟨v, B, X', hpost, hsteps⟩ | ⟨q, B, X', hpost, hsteps⟩
  · exact Or.inl ⟨v, vm₁, B, X₁.warmed, X', hpost, fun target h => hstep₁ _ fun acts => by rw [doInvoke_state]; exact hsteps.trans h⟩
  · exact Or.inr ⟨q, vm₁, B, X₁.warmed, X', hpost, hstep₁ _ fun acts => by rw [doInvoke_state]; exact hsteps⟩
theorem vx_callVW (X : Stand p l e R s m args below meth c T locs cells slots) (hexec : p.tables.exec = Jvm.exec) {own C : String} {index : Nat} {y : MethodName} {bytes : ByteArray} {maxL : Nat} {ret : Option FieldType} {hh : List (Nat × Nat × Nat × Nat)}
    (hown : s.vm.findClass own = some m.cls) (hlink : (Cond.methodLink own index y).before args s = true) (hinst : (Cond.instanceMethod y).before args s = true) (hsel : (Cond.selects C y y).before args s = true)
    (hcode : (Cond.codeWith y bytes maxL ret hh).before args s = true) (hy : y.cls ≠ "java/lang/invoke/MethodHandle" ∧ y.cls ≠ "java/lang/invoke/VarHandle")
    {W9 : Nat} {Pre : Pt → Array Value → Prop} {Post : Pt → Array Value → Option Value → Pt → Prop} (hK : Back l R p e below s args y 3 W9 Pre Post)
    {b : Addr} {cellB : Cell} (hcell : T.heap[b]? = some cellB) (hobj : cellB.vm.isStatics = false) (hcls : s.vm.findClass C = some cellB.cls)
    {g : JFrame} (hg : g.method = m) (hsize : g.locals.size = c.maxLocals) {argsL rest : List Value} (hlen : ∀ sig, parseMethodDescriptor y.desc = some sig → argsL.length = sig.parameters.length)
    (hstack : g.stack = argsL.reverse ++ .ref b :: rest) (hW : 2 * g.monitorRoom + (rest.map fun v => v.category).sum ≤ W9) (hdg : decode c.code g.pc = .ok (.invokevirtual index, 3))
    (hpre : ∀ vm₁, s.WarmedH vm₁ → Pre ⟨T.setVm vm₁, locs, cells, slots⟩ (Value.ref b :: argsL).toArray) :
    ∃ (v : Option Value) (vm₁ : Vm) (B : Pt), s.WarmedH vm₁ ∧ Stand p l e R s m args below meth c B.U B.locs B.cells B.slots ∧ Post ⟨T.setVm vm₁, locs, cells, slots⟩ (Value.ref b :: argsL).toArray v B ∧
      ∀ target, Steps p.tables e below (B.U.setTop { g with pc := g.pc + 3, stack := v.toList ++ rest }) target → Steps p.tables e below (T.setTop g) target := by
  obtain ⟨mk, methM, hnamed, hmethM, hstM, habM⟩ := Cond.instanceMethod_spec hinst
  obtain ⟨m8, methM', cM, hn8, hmethM', -, -, -, -, -, -, hsigM⟩ := Cond.codeWith_spec hcode
  cases Option.some.inj (hn8.symm.trans hnamed)
  cases hmethM.symm.trans hmethM'
  obtain ⟨c2, r2, m2, q1, q2, q3, q4, kP, hkP, hkPi⟩ := Cond.selects_spec hsel
  cases hcls.symm.trans q1
  cases (State.methodFound?_of_named hnamed hy).symm.trans q2
  cases hnamed.symm.trans q3
  have hselP : selectMethod e.platform s.vm cellB.cls mk = .method mk := by rw [Launch.admits_selectMethod X.admits]; exact q4
  obtain ⟨vm₁, X₁, hstep₁⟩ := X.invokevirtual hexec hown hlink hnamed hmethM hstM hkP hkPi hy (a := b) (cell := cellB) hcell
    (fun z h => by rw [h] at hobj; cases hobj) hselP hmethM habM hkP hkPi (g := g) hg (argsL := argsL) (rest := rest) (hlen _ hsigM) hstack hdg
  obtain ⟨v, B, X', hpost, hsteps⟩ := hK m meth c ⟨T.setVm vm₁, locs, cells, slots⟩ { g with stack := rest } (.invokevirtual index) mk (Value.ref b :: argsL).toArray X₁ hg hsize hdg hW (X₁.named hnamed) (hpre vm₁ X₁.warmed)
  exact ⟨v, vm₁, B, X₁.warmed, X', hpost, fun target h => hstep₁ _ fun acts => by rw [doInvoke_state]; exact hsteps.trans h⟩
abbrev vx_CVW (R : Room) (s : State) (args : Array Value) (own C : String) (index : Nat) (y : MethodName) (bytes : ByteArray) (maxL : Nat) (ret : Option FieldType) (hh : List (Nat × Nat × Nat × Nat)) (ws : List Cond) (rm : Room) (mc ms n : Nat) : Prop :=
  (rm.cells = mc ∧ rm.slots = ms ∧ rm.frames + 1 ≤ R.frames ∧ 8 + (maxL + 11) + rm.locals ≤ R.locals ∧ (∀ w ∈ ws, ∀ (a' : Array Value) (U : State), s.WarmedH U.vm → w.before a' U = true) ∧ Cond.codeWith y bytes maxL ret hh ∈ ws) ∧
  (Cond.codeWith y bytes maxL ret hh).before args s = true ∧ (Cond.initialized y.cls).before args s = true ∧ (y.cls ≠ "java/lang/invoke/MethodHandle" ∧ y.cls ≠ "java/lang/invoke/VarHandle") ∧
  (∀ sig, parseMethodDescriptor y.desc = some sig → n = sig.parameters.length) ∧ (Cond.methodLink own index y).before args s = true ∧ (Cond.instanceMethod y).before args s = true ∧ (Cond.selects C y y).before args s = true
theorem vx_cwVW {own C : String} {index maxL mc ms : Nat} {y : MethodName} {bytes : ByteArray} {ret : Option FieldType} {hh : List (Nat × Nat × Nat × Nat)} {Ts ws ws' : List Cond} {rm : Room} (n : Nat) (ht : ∀ w ∈ Ts, w.before args s = true) (hT : GoodIn Ts (wsV own index C y ws)) (hw : ws = Cond.codeWith y bytes maxL ret hh :: ws') (hrc : rm.cells = mc) (hrs : rm.slots = ms)
    (hd : y.cls = C ∧ y.cls ≠ "java/lang/invoke/MethodHandle" ∧ y.cls ≠ "java/lang/invoke/VarHandle" ∧ (parseMethodDescriptor y.desc).map (fun d => d.parameters.length) = some n) (hR : rm.frames + 1 ≤ R.frames ∧ 8 + (maxL + 11) + rm.locals ≤ R.locals) :
    vx_CVW R s args own C index y bytes maxL ret hh ws rm mc ms n := by
  obtain ⟨hC, hd⟩ := hd
  subst hC
  have ok : ∀ w ∈ wsV own index y.cls y ws, w.before args s = true := fun w h => ht w (hT w h).1
  have hG : GoodIn Ts ws := fun w h => hT w (by unfold wsV; exact List.mem_append_right _ h)
  have hc : Cond.codeWith y bytes maxL ret hh ∈ ws := by rw [hw]; exact List.mem_cons_self
  refine ⟨⟨hrc, hrs, hR.1, hR.2, pay_in ht hG, hc⟩, ht _ (hG _ hc).1, ok _ (by simp [wsV]), ⟨hd.1, hd.2.1⟩, fun sig h => ?_, ok _ (by simp [wsV]), ok _ (by simp [wsV]), ok _ (by simp [wsV])⟩
  have h2 := hd.2.2
  rw [h] at h2
  exact (Option.some.inj h2).symm
theorem vx_runVW {y : MethodName} {bytes cc : ByteArray} {maxL nL mc ms n index : Nat} {ret : Option FieldType} {hh : List (Nat × Nat × Nat × Nat)} {ws : List Cond} {rm : Room} {Pc : Array Value → State → Prop} {Qc : Array Value → State → Outcome → State → Prop} {free : Addr → Prop} {Ts : List Cond} {own C : String} {b : Addr} {As rest : List Value} {g : JFrame}
    (S : CallFix p m c cc nL s args Ts own) (hM : Met l y ws rm Pc Qc mc ms free) (cw : vx_CVW R s args own C index y bytes maxL ret hh ws rm mc ms n) (hp : PreV s H C b Pc As)
    (hg : g.method = m) (hn : As.length = n) (hsize : g.locals.size = nL) (hstack : g.stack = As.reverse ++ .ref b :: rest) (hW : 2 * g.monitorRoom + (rest.map fun v => v.category).sum ≤ 8) (hdg : decode cc g.pc = .ok (.invokevirtual index, 3)) (hf : cells + mc ≤ R.cells ∧ slots + ms ≤ R.slots) :
    va_Run p l e R s m args below meth c H locs cells slots mc ms g rest (Qc (Value.ref b :: As).toArray) free := by
  obtain ⟨⟨hrc, hrs, hfr, hlo, hws, hcw⟩, hcode, hini, hy, hlen, hl, hin, hse⟩ := cw
  have hK : Back l R p e below s args y 3 8 (PreOf R mc ms Pc) (PostOf Qc mc ms free) := va_backW (hh := hh) (bytes := bytes) (maxL := maxL) (ret := ret) hM hp.1 hrc hrs hfr hlo hws hcw (fun a' U hW => word_at hW (Or.inl (by first | rfl | simp [Cond.onTables, Cond.keeps, Cond.steady])) hini)
  obtain ⟨hx, hb, hml, ho, -⟩ := S
  obtain ⟨-, ⟨cellB, hcB, hoB, hclB⟩, hPc⟩ := hp
  intro T hT X
  obtain ⟨v, vm₁, ⟨U', l2, c2, s2⟩, hW₁, X', ⟨g', mk, t, L, e1, e2, hq, h1, hL, h2, h3⟩, st⟩ := vx_callVW X hx (C := C) (hh := hh) (bytes := bytes) (maxL := maxL) (ret := ret) ho hl hin hse hcode hy hK (by rw [hT]; exact hcB) hoB hclB hg (hsize.trans hml.symm) (argsL := As) (rest := rest) (fun sig h => hn.trans (hlen sig h)) hstack hW (by rw [hb]; exact hdg)
    (fun vm₁ hW₁ => ⟨hf.1, hf.2, hPc (T.setVm vm₁) hT hW₁⟩)
  dsimp only [Pt.U, Pt.locs, Pt.cells, Pt.slots] at X' e1 e2 h1 h2 h3 st
  subst h1; subst h2; subst h3
  exact ⟨v, (T.setVm vm₁).calling g' mk (Value.ref b :: As).toArray, t, U', L, hT, X', hL, e1, e2, hq, st⟩
section
variable {y : MethodName} {bytes cc : ByteArray} {maxL nL mc ms n index : Nat} {ret : Option FieldType} {ws : List Cond} {rm : Room} {Pc : Array Value → State → Prop} {Qc : Array Value → State → Outcome → State → Prop} {XC : String → State → State → Prop} {free : Addr → Prop} {Ts : List Cond} {own C : String} {b : Addr} {As rest : List Value} {g : JFrame}
theorem vx_runVX {hh : List (Nat × Nat × Nat × Nat)} (S : CallFix p m c cc nL s args Ts own) (hM : vx_Met l y ws rm Pc Qc XC mc ms free) (cw : vx_CVW R s args own C index y bytes maxL ret hh ws rm mc ms n) (hp : PreV s H C b Pc As)
    (hg : g.method = m) (hn : As.length = n) (hsize : g.locals.size = nL) (hstack : g.stack = As.reverse ++ .ref b :: rest) (hW : 2 * g.monitorRoom + (rest.map fun v => v.category).sum ≤ 8) (hdg : decode cc g.pc = .ok (.invokevirtual index, 3)) (hf : cells + mc ≤ R.cells ∧ slots + ms ≤ R.slots) :
    vx_Run p l e R s m args below meth c H locs cells slots mc ms g rest (Qc (Value.ref b :: As).toArray) XC free := by
  obtain ⟨⟨hrc, hrs, hfr, hlo, hws, hcw⟩, hcode, hini, hy, hlen, hl, hin, hse⟩ := cw
  have hK : vx_Back l R p e below s args y 3 8 (PreOf R mc ms Pc) (PostOf Qc mc ms free) (vx_Post XC mc ms free) := vx_backW (hh := hh) (bytes := bytes) (maxL := maxL) (ret := ret) hM hp.1 hrc hrs hfr hlo hws hcw (fun a' U hW => word_at hW (Or.inl (by first | rfl | simp [Cond.onTables, Cond.keeps, Cond.steady])) hini)
  obtain ⟨hx, hb, hml, ho, -⟩ := S
  obtain ⟨-, ⟨cellB, hcB, hoB, hclB⟩, hPc⟩ := hp
  intro T hT X
  rcases vx_callVX X hx (C := C) (hh := hh) (bytes := bytes) (maxL := maxL) (ret := ret) ho hl hin hse hcode hy hK (by rw [hT]; exact hcB) hoB hclB hg (hsize.trans hml.symm) (argsL := As) (rest := rest) (fun sig h => hn.trans (hlen sig h)) hstack hW (by rw [hb]; exact hdg)
    (fun vm₁ hW₁ => ⟨hf.1, hf.2, hPc (T.setVm vm₁) hT hW₁⟩) with ⟨v, vm₁, ⟨U', l2, c2, s2⟩, hW₁, X', ⟨g', mk, t, L, e1, e2, hq, h1, hL, h2, h3⟩, st⟩ | ⟨q, vm₁, ⟨U', l2, c2, s2⟩, hW₁, X', ⟨g', mk, t, L, E, ce, e1, e2, hq, hce, hcv, hcl, h1, hL, h2, h3⟩, st⟩
  · dsimp only [Pt.U, Pt.locs, Pt.cells, Pt.slots] at X' e1 e2 h1 h2 h3 st
    subst h1; subst h2; subst h3
    exact Or.inl ⟨v, (T.setVm vm₁).calling g' mk (Value.ref b :: As).toArray, t, U', L, hT, X', hL, e1, e2, hq, st⟩
  · dsimp only [Pt.U, Pt.locs, Pt.cells, Pt.slots] at X' e1 e2 h1 h2 h3 st hcl
    subst h1; subst h2; subst h3
    exact Or.inr ⟨q, (T.setVm vm₁).calling g' mk (Value.ref b :: As).toArray, t, U', L, E, ce, hT, X', hL, e1, e2, hq, hce, hcv, vx_cls hW₁ hcl, st⟩
theorem vx_runSX {hh : List (Nat × Nat × Nat × Nat)} (S : CallFix p m c cc nL s args Ts own) (hM : vx_Met l y ws rm Pc Qc XC mc ms free) (cw : vx_CSW R s args own index y bytes maxL ret hh ws rm mc ms n) (hp : PreS s H Pc As)
    (hg : g.method = m) (hn : As.length = n) (hsize : g.locals.size = nL) (hstack : g.stack = As.reverse ++ rest) (hW : 2 * g.monitorRoom + (rest.map fun v => v.category).sum ≤ 8) (hdg : decode cc g.pc = .ok (.invokestatic index, 3)) (hf : cells + mc ≤ R.cells ∧ slots + ms ≤ R.slots) :
    vx_Run p l e R s m args below meth c H locs cells slots mc ms g rest (Qc As.toArray) XC free := by
  obtain ⟨⟨hrc, hrs, hfr, hlo, hws, hcw⟩, hcode, hini, hy, hlen, hl, hstt⟩ := cw
  have hK : vx_Back l R p e below s args y 3 8 (PreOf R mc ms Pc) (PostOf Qc mc ms free) (vx_Post XC mc ms free) := vx_backW (hh := hh) (bytes := bytes) (maxL := maxL) (ret := ret) hM hp.1 hrc hrs hfr hlo hws hcw (fun a' U hW => word_at hW (Or.inl (by first | rfl | simp [Cond.onTables, Cond.keeps, Cond.steady])) hini)
  obtain ⟨hx, hb, hml, ho, -⟩ := S
  intro T hT X
  rcases vx_callSX X hx (hh := hh) (bytes := bytes) (maxL := maxL) (ret := ret) ho hl hstt hini hcode hy hK hg (hsize.trans hml.symm) (argsL := As) (rest := rest) (fun sig h => hn.trans (hlen sig h)) hstack hW (by rw [hb]; exact hdg)
    (fun vm₁ hW₁ => ⟨hf.1, hf.2, hp.2 (T.setVm vm₁) hT hW₁⟩) with ⟨v, vm₁, ⟨U', l2, c2, s2⟩, hW₁, X', ⟨g', mk, t, L, e1, e2, hq, h1, hL, h2, h3⟩, st⟩ | ⟨q, vm₁, ⟨U', l2, c2, s2⟩, hW₁, X', ⟨g', mk, t, L, E, ce, e1, e2, hq, hce, hcv, hcl, h1, hL, h2, h3⟩, st⟩
  · dsimp only [Pt.U, Pt.locs, Pt.cells, Pt.slots] at X' e1 e2 h1 h2 h3 st
    subst h1; subst h2; subst h3
    exact Or.inl ⟨v, (T.setVm vm₁).calling g' mk As.toArray, t, U', L, hT, X', hL, e1, e2, hq, st⟩
  · dsimp only [Pt.U, Pt.locs, Pt.cells, Pt.slots] at X' e1 e2 h1 h2 h3 st hcl
    subst h1; subst h2; subst h3
    exact Or.inr ⟨q, (T.setVm vm₁).calling g' mk As.toArray, t, U', L, E, ce, hT, X', hL, e1, e2, hq, hce, hcv, vx_cls hW₁ hcl, st⟩
end
end VXH
theorem vx_ofWH {l : Launch} {y : MethodName} {ws ws' : List Cond} {rm : Room} {Pc : Array Value → State → Prop} {Qc : Array Value → State → Outcome → State → Prop} {XC : String → State → State → Prop} {mc ms : Nat} {free : Addr → Prop} {cc : ByteArray} {maxL : Nat} {ret : Option FieldType} {hh : List (Nat × Nat × Nat × Nat)}
    (hy : plainName y.cls = true) (hw : ws = Cond.codeWith y cc maxL ret hh :: ws')
    (body : ∀ p e s m args below meth c s₁, BodyLoose p l y (headSpec ws rm) cc maxL ret e s m args below meth c s₁ → c.maxLocals = maxL → Pc args s →
      W p l e (headSpec ws rm).room s m args below meth c s.heap [] 0 0 (vx_MQ below Qc XC args s mc ms free) (entryFrame m args maxL)) : vx_Met l y ws rm Pc Qc XC mc ms free := by
  refine MetFree.of_bodyS (code := cc) (maxLocals := maxL) (ret := ret) hy ?_ ?_
  · intro args s m h hn
    obtain ⟨m9, meth, c, hn9, h1, h2, h3, h4, -, h5, h6, -⟩ := Cond.codeWith_spec (atoms_spec (ws := ws) h _ (by rw [hw]; exact List.mem_cons_self))
    cases hn.symm.trans hn9
    exact ⟨meth, c, h1, h2, h3, h4, h5, h6⟩
  · intro p e s m args below meth c s₁ B hml hP _
    have hh0 : s₁.heap = s.heap := by rw [B.state]; rfl
    obtain ⟨t, a1, o, b1, b2, b3⟩ := body p e s m args below meth c s₁ B hml hP s₁ hh0 (Stand.of_body B)
    exact ⟨t, o, a1, b1, b2, b3⟩
/-! ===== END ===== -/
end
section
/-! ===== BEGIN printed: names, fields, word lists, decode rows ===== -/
def RX0 : String := "LadderClimb$History"
def TX0 : u_T := fun k => match k with
  | 0 => ("LadderClimb$History", "saved", "[LLadderClimb$Site;", true)
  | 1 => ("LadderClimb$History", "next", "I", false)
  | _ => ("LadderClimb$History", "size", "I", false)
def tyX0 : Nat → FieldType := fun k => match k with
  | 0 => .array (.object "LadderClimb$Site")
  | 1 => .int
  | _ => .int
abbrev wsX00 : List Cond := u_ws RX0 TX0 3
theorem nmX0 : ∀ a, a < 3 → ∀ b, b < 3 → a ≠ b → (TX0 a).2.1 ≠ (TX0 b).2.1 := by decide +kernel
theorem tyX0_ok : ∀ k, k < 3 → parseFieldDescriptor (TX0 k).2.2.1 = some (tyX0 k) := by decide +kernel
abbrev cX0_init : ByteArray := prog_2_method_1_code
def yX0_init : MethodName := ⟨RX0, "<init>", "()V"⟩
abbrev cX0_save : ByteArray := prog_2_method_2_code
def yX0_save : MethodName := ⟨RX0, "save", "(LLadderClimb$Site;)V"⟩
abbrev cX0_restoreTo : ByteArray := prog_2_method_3_code
def yX0_restoreTo : MethodName := ⟨RX0, "restoreTo", "(LLadderClimb$Site;)V"⟩
def RX1 : String := "LadderClimb$Reader"
def TX1 : u_T := fun k => match k with
  | 0 => ("LadderClimb$Reader", "place", "I", false)
  | 1 => ("LadderClimb$Reader", "least", "I", false)
  | 2 => ("LadderClimb$Reader", "most", "I", false)
  | 3 => ("LadderClimb$Reader", "ladder", "I", false)
  | 4 => ("LadderClimb$Reader", "work", "I", false)
  | _ => ("LadderClimb$Reader", "number", "I", false)
def tyX1 : Nat → FieldType := fun k => match k with
  | 0 => .int
  | 1 => .int
  | 2 => .int
  | 3 => .int
  | 4 => .int
  | _ => .int
abbrev wsX10 : List Cond := u_ws RX1 TX1 6
theorem nmX1 : ∀ a, a < 6 → ∀ b, b < 6 → a ≠ b → (TX1 a).2.1 ≠ (TX1 b).2.1 := by decide +kernel
theorem tyX1_ok : ∀ k, k < 6 → parseFieldDescriptor (TX1 k).2.2.1 = some (tyX1 k) := by decide +kernel
abbrev cX1_init : ByteArray := prog_3_method_1_code
def yX1_init : MethodName := ⟨RX1, "<init>", "()V"⟩
def RX2 : String := "LadderClimb$Rig"
def TX2 : u_T := fun k => match k with
  | 0 => ("LadderClimb$Rig", "base", "I", false)
  | 1 => ("LadderClimb$Rig", "height", "I", false)
  | 2 => ("LadderClimb$Rig", "weight", "I", false)
  | 3 => ("LadderClimb$Rig", "ground", "I", false)
  | 4 => ("LadderClimb$Rig", "wall", "I", false)
  | 5 => ("LadderClimb$Rig", "rope", "I", false)
  | 6 => ("LadderClimb$Rig", "falls", "I", false)
  | 7 => ("LadderClimb$Rig", "people", "I", false)
  | 8 => ("LadderClimb$Rig", "weights", "[I", true)
  | _ => ("LadderClimb$Rig", "steps", "[I", true)
def tyX2 : Nat → FieldType := fun k => match k with
  | 0 => .int
  | 1 => .int
  | 2 => .int
  | 3 => .int
  | 4 => .int
  | 5 => .int
  | 6 => .int
  | 7 => .int
  | 8 => .array .int
  | _ => .array .int
abbrev wsX20 : List Cond := u_ws RX2 TX2 10
theorem nmX2 : ∀ a, a < 10 → ∀ b, b < 10 → a ≠ b → (TX2 a).2.1 ≠ (TX2 b).2.1 := by decide +kernel
theorem tyX2_ok : ∀ k, k < 10 → parseFieldDescriptor (TX2 k).2.2.1 = some (tyX2 k) := by decide +kernel
abbrev cX2_init : ByteArray := prog_4_method_1_code
def yX2_init : MethodName := ⟨RX2, "<init>", "()V"⟩
abbrev cX2_copyFrom : ByteArray := prog_4_method_2_code
def yX2_copyFrom : MethodName := ⟨RX2, "copyFrom", "(LLadderClimb$Rig;)V"⟩
abbrev cX2_isFull : ByteArray := prog_4_method_3_code
def yX2_isFull : MethodName := ⟨RX2, "isFull", "()Z"⟩
abbrev cX2_bears : ByteArray := prog_4_method_4_code
def yX2_bears : MethodName := ⟨RX2, "bears", "(I)Z"⟩
abbrev cX2_weightOf : ByteArray := prog_4_method_5_code
def yX2_weightOf : MethodName := ⟨RX2, "weightOf", "(I)I"⟩
abbrev cX2_stepOf : ByteArray := prog_4_method_6_code
def yX2_stepOf : MethodName := ⟨RX2, "stepOf", "(I)I"⟩
abbrev cX2_setStep : ByteArray := prog_4_method_7_code
def yX2_setStep : MethodName := ⟨RX2, "setStep", "(II)V"⟩
abbrev cX2_add : ByteArray := prog_4_method_8_code
def yX2_add : MethodName := ⟨RX2, "add", "(I)V"⟩
abbrev cX2_remove : ByteArray := prog_4_method_9_code
def yX2_remove : MethodName := ⟨RX2, "remove", "(I)V"⟩
abbrev cX2_removeAll : ByteArray := prog_4_method_10_code
def yX2_removeAll : MethodName := ⟨RX2, "removeAll", "()V"⟩
abbrev cX2_load : ByteArray := prog_4_method_11_code
def yX2_load : MethodName := ⟨RX2, "load", "()I"⟩
abbrev cX2_moment : ByteArray := prog_4_method_12_code
def yX2_moment : MethodName := ⟨RX2, "moment", "()I"⟩
abbrev cX2_push : ByteArray := prog_4_method_13_code
def yX2_push : MethodName := ⟨RX2, "push", "(I)I"⟩
abbrev cX2_whatGivesWay : ByteArray := prog_4_method_14_code
def yX2_whatGivesWay : MethodName := ⟨RX2, "whatGivesWay", "(I)I"⟩
abbrev cX2_stands : ByteArray := prog_4_method_15_code
def yX2_stands : MethodName := ⟨RX2, "stands", "()Z"⟩
abbrev cX2_forces : ByteArray := prog_4_method_16_code
def yX2_forces : MethodName := ⟨RX2, "forces", "()I"⟩
abbrev cX2_nearestForce : ByteArray := prog_4_method_17_code
def yX2_nearestForce : MethodName := ⟨RX2, "nearestForce", "()I"⟩
abbrev cX2_leastForce : ByteArray := prog_4_method_18_code
def yX2_leastForce : MethodName := ⟨RX2, "leastForce", "()I"⟩
abbrev cX2_greatestForce : ByteArray := prog_4_method_19_code
def yX2_greatestForce : MethodName := ⟨RX2, "greatestForce", "()I"⟩
abbrev cX2_leastByWall : ByteArray := prog_4_method_20_code
def yX2_leastByWall : MethodName := ⟨RX2, "leastByWall", "()I"⟩
abbrev cX2_leastByGround : ByteArray := prog_4_method_21_code
def yX2_leastByGround : MethodName := ⟨RX2, "leastByGround", "()I"⟩
abbrev cX2_groundPercents : ByteArray := prog_4_method_22_code
def yX2_groundPercents : MethodName := ⟨RX2, "groundPercents", "()I"⟩
abbrev cX2_wallPercents : ByteArray := prog_4_method_23_code
def yX2_wallPercents : MethodName := ⟨RX2, "wallPercents", "()I"⟩
def RX3 : String := "LadderClimb$Site"
def TX3 : u_T := fun k => match k with
  | 0 => ("LadderClimb$Site", "rigs", "[LLadderClimb$Rig;", true)
  | 1 => ("LadderClimb$Site", "fallen", "I", false)
  | _ => ("LadderClimb$Site", "climbed", "I", false)
def tyX3 : Nat → FieldType := fun k => match k with
  | 0 => .array (.object "LadderClimb$Rig")
  | 1 => .int
  | _ => .int
abbrev wsX30 : List Cond := u_ws RX3 TX3 3
theorem nmX3 : ∀ a, a < 3 → ∀ b, b < 3 → a ≠ b → (TX3 a).2.1 ≠ (TX3 b).2.1 := by decide +kernel
theorem tyX3_ok : ∀ k, k < 3 → parseFieldDescriptor (TX3 k).2.2.1 = some (tyX3 k) := by decide +kernel
abbrev cX3_init : ByteArray := prog_5_method_1_code
def yX3_init : MethodName := ⟨RX3, "<init>", "()V"⟩
abbrev cX3_copyFrom : ByteArray := prog_5_method_2_code
def yX3_copyFrom : MethodName := ⟨RX3, "copyFrom", "(LLadderClimb$Site;)V"⟩
abbrev cX3_standing : ByteArray := prog_5_method_3_code
def yX3_standing : MethodName := ⟨RX3, "standing", "()I"⟩
abbrev cX3_people : ByteArray := prog_5_method_4_code
def yX3_people : MethodName := ⟨RX3, "people", "()I"⟩
abbrev cX3_falls : ByteArray := prog_5_method_5_code
def yX3_falls : MethodName := ⟨RX3, "falls", "()I"⟩
abbrev cX3_fallsNow : ByteArray := prog_5_method_6_code
def yX3_fallsNow : MethodName := ⟨RX3, "fallsNow", "(LLadderClimb$Rig;)Z"⟩
abbrev cX3_fall : ByteArray := prog_5_method_7_code
def yX3_fall : MethodName := ⟨RX3, "fall", "(LLadderClimb$Rig;)V"⟩
abbrev cX3_walk : ByteArray := prog_5_method_8_code
def yX3_walk : MethodName := ⟨RX3, "walk", "(LLadderClimb$Rig;II)I"⟩
def RX4 : String := "LadderClimb$Works"
def TX4 : u_T := fun k => match k with
  | 0 => ("LadderClimb$Works", "codes", "[I", true)
  | 1 => ("LadderClimb$Works", "length", "I", false)
  | 2 => ("LadderClimb$Works", "cursor", "I", false)
  | _ => ("LadderClimb$Works", "reader", "LLadderClimb$Reader;", true)
def tyX4 : Nat → FieldType := fun k => match k with
  | 0 => .array .int
  | 1 => .int
  | 2 => .int
  | _ => .object "LadderClimb$Reader"
abbrev wsX40 : List Cond := u_ws RX4 TX4 4
theorem nmX4 : ∀ a, a < 4 → ∀ b, b < 4 → a ≠ b → (TX4 a).2.1 ≠ (TX4 b).2.1 := by decide +kernel
theorem tyX4_ok : ∀ k, k < 4 → parseFieldDescriptor (TX4 k).2.2.1 = some (tyX4 k) := by decide +kernel
abbrev cX4_init : ByteArray := prog_6_method_1_code
def yX4_init : MethodName := ⟨RX4, "<init>", "()V"⟩
def RX5 : String := "LadderClimb"
def TX5 : u_T := fun k => match k with
  | 0 => ("LadderClimb", "site", "LLadderClimb$Site;", true)
  | 1 => ("LadderClimb", "history", "LLadderClimb$History;", true)
  | 2 => ("LadderClimb", "works", "LLadderClimb$Works;", true)
  | _ => ("LadderClimb", "trial", "LLadderClimb$Rig;", true)
def tyX5 : Nat → FieldType := fun k => match k with
  | 0 => .object "LadderClimb$Site"
  | 1 => .object "LadderClimb$History"
  | 2 => .object "LadderClimb$Works"
  | _ => .object "LadderClimb$Rig"
abbrev wsX50 : List Cond := u_ws RX5 TX5 4
theorem nmX5 : ∀ a, a < 4 → ∀ b, b < 4 → a ≠ b → (TX5 a).2.1 ≠ (TX5 b).2.1 := by decide +kernel
theorem tyX5_ok : ∀ k, k < 4 → parseFieldDescriptor (TX5 k).2.2.1 = some (tyX5 k) := by decide +kernel
abbrev cX5_init : ByteArray := prog_1_method_1_code
def yX5_init : MethodName := ⟨RX5, "<init>", "()V"⟩
abbrev cX5_put : ByteArray := prog_1_method_2_code
def yX5_put : MethodName := ⟨RX5, "put", "(IIII)I"⟩
abbrev cX5_kinds : ByteArray := prog_1_method_3_code
def yX5_kinds : MethodName := ⟨RX5, "kinds", "(III)I"⟩
abbrev cX5_rope : ByteArray := prog_1_method_4_code
def yX5_rope : MethodName := ⟨RX5, "rope", "(II)I"⟩
abbrev cX5_on : ByteArray := prog_1_method_5_code
def yX5_on : MethodName := ⟨RX5, "on", "(II)I"⟩
abbrev cX5_off : ByteArray := prog_1_method_6_code
def yX5_off : MethodName := ⟨RX5, "off", "(II)I"⟩
abbrev cX5_climb : ByteArray := prog_1_method_7_code
def yX5_climb : MethodName := ⟨RX5, "climb", "(III)I"⟩
abbrev cX5_undo : ByteArray := prog_1_method_12_code
def yX5_undo : MethodName := ⟨RX5, "undo", "()I"⟩
abbrev cX5_ladder : ByteArray := prog_1_method_13_code
def yX5_ladder : MethodName := ⟨RX5, "ladder", "(II)I"⟩
abbrev cX5_person : ByteArray := prog_1_method_14_code
def yX5_person : MethodName := ⟨RX5, "person", "(III)I"⟩
abbrev cX5_force : ByteArray := prog_1_method_15_code
def yX5_force : MethodName := ⟨RX5, "force", "(II)I"⟩
abbrev cX5_held : ByteArray := prog_1_method_16_code
def yX5_held : MethodName := ⟨RX5, "held", "(II)I"⟩
abbrev cX5_count : ByteArray := prog_1_method_17_code
def yX5_count : MethodName := ⟨RX5, "count", "(I)I"⟩
abbrev cX5_highest : ByteArray := prog_1_method_18_code
def yX5_highest : MethodName := ⟨RX5, "highest", "(II)I"⟩
abbrev cX5_neededRope : ByteArray := prog_1_method_19_code
def yX5_neededRope : MethodName := ⟨RX5, "neededRope", "(I)I"⟩
abbrev cX5_bestBase : ByteArray := prog_1_method_20_code
def yX5_bestBase : MethodName := ⟨RX5, "bestBase", "(I)I"⟩
abbrev cX5_riskiest : ByteArray := prog_1_method_21_code
def yX5_riskiest : MethodName := ⟨RX5, "riskiest", "(I)I"⟩
abbrev cX5_walls : ByteArray := prog_1_method_22_code
def yX5_walls : MethodName := ⟨RX5, "walls", "(I)I"⟩
abbrev cX5_safety : ByteArray := prog_1_method_23_code
def yX5_safety : MethodName := ⟨RX5, "safety", "()D"⟩
abbrev cX5_rigOf : ByteArray := prog_1_method_29_code
def yX5_rigOf : MethodName := ⟨RX5, "rigOf", "(I)LLadderClimb$Rig;"⟩
abbrev cX5_demandPerson : ByteArray := prog_1_method_30_code
def yX5_demandPerson : MethodName := ⟨RX5, "demandPerson", "(LLadderClimb$Rig;I)V"⟩
abbrev cX5_demandRange : ByteArray := prog_1_method_31_code
def yX5_demandRange : MethodName := ⟨RX5, "demandRange", "(III)V"⟩
def RX6 : String := "LadderClimbModel"
def TX6 : u_T := fun k => match k with
  | _ => ("", "", "", false)
def tyX6 : Nat → FieldType := fun k => match k with
  | _ => .int
abbrev wsX60 : List Cond := u_ws RX6 TX6 0
theorem nmX6 : ∀ a, a < 0 → ∀ b, b < 0 → a ≠ b → (TX6 a).2.1 ≠ (TX6 b).2.1 := by decide +kernel
theorem tyX6_ok : ∀ k, k < 0 → parseFieldDescriptor (TX6 k).2.2.1 = some (tyX6 k) := by decide +kernel
def RJ9 : String := "java/lang/Math"
def TJ9 : u_T := fun k => match k with
  | _ => ("", "", "", false)
def tyJ9 : Nat → FieldType := fun k => match k with
  | _ => .int
abbrev wsJ90 : List Cond := u_ws RJ9 TJ9 0
theorem nmJ9 : ∀ a, a < 0 → ∀ b, b < 0 → a ≠ b → (TJ9 a).2.1 ≠ (TJ9 b).2.1 := by decide +kernel
theorem tyJ9_ok : ∀ k, k < 0 → parseFieldDescriptor (TJ9 k).2.2.1 = some (tyJ9 k) := by decide +kernel
abbrev cJ9_floorDiv_7cf53 : ByteArray := prog_13_method_47_code
def yJ9_floorDiv_7cf53 : MethodName := ⟨RJ9, "floorDiv", "(II)I"⟩
abbrev cJ9_abs_0f7a4 : ByteArray := prog_13_method_59_code
def yJ9_abs_0f7a4 : MethodName := ⟨RJ9, "abs", "(I)I"⟩
abbrev cJ9_max_7cf53 : ByteArray := prog_13_method_65_code
def yJ9_max_7cf53 : MethodName := ⟨RJ9, "max", "(II)I"⟩
abbrev cJ9_min_7cf53 : ByteArray := prog_13_method_69_code
def yJ9_min_7cf53 : MethodName := ⟨RJ9, "min", "(II)I"⟩
def RJ0 : String := "java/lang/String"
def TJ0 : u_T := fun k => match k with
  | _ => ("", "", "", false)
def tyJ0 : Nat → FieldType := fun k => match k with
  | _ => .int
abbrev wsJ00 : List Cond := u_ws RJ0 TJ0 0
theorem nmJ0 : ∀ a, a < 0 → ∀ b, b < 0 → a ≠ b → (TJ0 a).2.1 ≠ (TJ0 b).2.1 := by decide +kernel
theorem tyJ0_ok : ∀ k, k < 0 → parseFieldDescriptor (TJ0 k).2.2.1 = some (tyJ0 k) := by decide +kernel
def RL : String := "LadderClimbLaw"
abbrev cL_cell : ByteArray := method_2_code
def yL_cell : MethodName := ⟨RL, "cell", "([II)I"⟩
abbrev cL_low : ByteArray := method_3_code
def yL_low : MethodName := ⟨RL, "low", "(II)I"⟩
abbrev cL_changes : ByteArray := method_4_code
def yL_changes : MethodName := ⟨RL, "changes", "(LLadderClimb;IIII[I)I"⟩
abbrev cL_act : ByteArray := method_5_code
def yL_act : MethodName := ⟨RL, "act", "(LLadderClimb;I[I)I"⟩
abbrev cL_areAlike : ByteArray := method_6_code
def yL_areAlike : MethodName := ⟨RL, "areAlike", "(LLadderClimb;LLadderClimb;)Z"⟩
abbrev cL_isLadderSo : ByteArray := method_7_code
def yL_isLadderSo : MethodName := ⟨RL, "isLadderSo", "(LLadderClimb;I)Z"⟩
abbrev cL_areTrialsSo : ByteArray := method_8_code
def yL_areTrialsSo : MethodName := ⟨RL, "areTrialsSo", "(LLadderClimb;I)Z"⟩
abbrev cL_areSums : ByteArray := method_9_code
def yL_areSums : MethodName := ⟨RL, "areSums", "(LLadderClimb;)Z"⟩
abbrev cL_law : ByteArray := code
def yL_law : MethodName := ⟨RL, "law", "([I)Z"⟩
def wsX2_init : List Cond := .code yX2_init cX2_init 1 none :: ([.methodLink RX2 3 objectInit, .instanceMethod objectInit, .code objectInit ⟨#[0xb1]⟩ 1 none, .fieldLink RX2 9 "LadderClimb$Rig" "base" "I", .fieldLink RX2 15 "LadderClimb$Rig" "height" "I", .fieldLink RX2 18 "LadderClimb$Rig" "weight" "I", .fieldLink RX2 21 "LadderClimb$Rig" "ground" "I", .fieldLink RX2 24 "LadderClimb$Rig" "wall" "I", .fieldLink RX2 27 "LadderClimb$Rig" "rope" "I", .fieldLink RX2 30 "LadderClimb$Rig" "falls" "I", .fieldLink RX2 33 "LadderClimb$Rig" "people" "I", .arrayClass .int, .fieldLink RX2 36 "LadderClimb$Rig" "weights" "[I", .fieldLink RX2 40 "LadderClimb$Rig" "steps" "[I"] ++ wsX20)
def wsX3_init : List Cond := .code yX3_init cX3_init 2 none :: ([.methodLink RX3 3 objectInit, .instanceMethod objectInit, .code objectInit ⟨#[0xb1]⟩ 1 none, .classLink RX3 9 RX2, .fieldLink RX3 11 "LadderClimb$Site" "rigs" "[LLadderClimb$Rig;", .fieldLink RX3 17 "LadderClimb$Site" "fallen" "I", .fieldLink RX3 21 "LadderClimb$Site" "climbed" "I", .instantiable RX2 10, .initialized RX2, .instanceMethod yX2_init, .code yX2_init cX2_init 1 none, .methodLink RX2 3 objectInit, .fieldLink RX2 9 "LadderClimb$Rig" "base" "I", .fieldLink RX2 15 "LadderClimb$Rig" "height" "I", .fieldLink RX2 18 "LadderClimb$Rig" "weight" "I", .fieldLink RX2 21 "LadderClimb$Rig" "ground" "I", .fieldLink RX2 24 "LadderClimb$Rig" "wall" "I", .fieldLink RX2 27 "LadderClimb$Rig" "rope" "I", .fieldLink RX2 30 "LadderClimb$Rig" "falls" "I", .fieldLink RX2 33 "LadderClimb$Rig" "people" "I", .arrayClass .int, .fieldLink RX2 36 "LadderClimb$Rig" "weights" "[I", .fieldLink RX2 40 "LadderClimb$Rig" "steps" "[I"] ++ wsX30 ++ wsX20)
def wsX0_init_r1 : List Cond := [Cond.methodLink RX0 3 objectInit, Cond.instanceMethod objectInit, Cond.code objectInit ⟨#[0xb1]⟩ 1 none, Cond.classLink RX0 9 RX3, Cond.fieldLink RX0 11 "LadderClimb$History" "saved" "[LLadderClimb$Site;", Cond.fieldLink RX0 17 "LadderClimb$History" "next" "I", Cond.fieldLink RX0 21 "LadderClimb$History" "size" "I", Cond.instantiable RX3 3, Cond.initialized RX3, Cond.methodLink RX0 24 yX3_init, Cond.instanceMethod yX3_init, Cond.code yX3_init cX3_init 2 none, Cond.methodLink RX3 3 objectInit, Cond.classLink RX3 9 RX2, Cond.fieldLink RX3 11 "LadderClimb$Site" "rigs" "[LLadderClimb$Rig;", Cond.fieldLink RX3 17 "LadderClimb$Site" "fallen" "I", Cond.fieldLink RX3 21 "LadderClimb$Site" "climbed" "I", Cond.instantiable RX2 10, Cond.initialized RX2, Cond.instanceMethod yX2_init, Cond.code yX2_init cX2_init 1 none, Cond.methodLink RX2 3 objectInit, Cond.fieldLink RX2 9 "LadderClimb$Rig" "base" "I", Cond.fieldLink RX2 15 "LadderClimb$Rig" "height" "I"]
def wsX0_init_r2 : List Cond := [Cond.fieldLink RX2 18 "LadderClimb$Rig" "weight" "I", Cond.fieldLink RX2 21 "LadderClimb$Rig" "ground" "I", Cond.fieldLink RX2 24 "LadderClimb$Rig" "wall" "I", Cond.fieldLink RX2 27 "LadderClimb$Rig" "rope" "I", Cond.fieldLink RX2 30 "LadderClimb$Rig" "falls" "I", Cond.fieldLink RX2 33 "LadderClimb$Rig" "people" "I", Cond.arrayClass .int, Cond.fieldLink RX2 36 "LadderClimb$Rig" "weights" "[I", Cond.fieldLink RX2 40 "LadderClimb$Rig" "steps" "[I"]
def wsX0_init : List Cond := .code yX0_init cX0_init 2 none :: ((wsX0_init_r1 ++ wsX0_init_r2) ++ wsX00 ++ wsX30 ++ wsX20)
def wsX2_copyFrom : List Cond := .code yX2_copyFrom cX2_copyFrom 3 none :: ([.fieldLink RX2 9 "LadderClimb$Rig" "base" "I", .fieldLink RX2 15 "LadderClimb$Rig" "height" "I", .fieldLink RX2 18 "LadderClimb$Rig" "weight" "I", .fieldLink RX2 21 "LadderClimb$Rig" "ground" "I", .fieldLink RX2 24 "LadderClimb$Rig" "wall" "I", .fieldLink RX2 27 "LadderClimb$Rig" "rope" "I", .fieldLink RX2 30 "LadderClimb$Rig" "falls" "I", .fieldLink RX2 33 "LadderClimb$Rig" "people" "I", .fieldLink RX2 36 "LadderClimb$Rig" "weights" "[I", .fieldLink RX2 40 "LadderClimb$Rig" "steps" "[I"] ++ wsX20)
def wsX3_copyFrom : List Cond := .code yX3_copyFrom cX3_copyFrom 3 none :: ([.fieldLink RX3 11 "LadderClimb$Site" "rigs" "[LLadderClimb$Rig;", .fieldLink RX3 17 "LadderClimb$Site" "fallen" "I", .fieldLink RX3 21 "LadderClimb$Site" "climbed" "I", .methodLink RX3 25 yX2_copyFrom, .instanceMethod yX2_copyFrom, .selects RX2 yX2_copyFrom yX2_copyFrom, .initialized RX2, .code yX2_copyFrom cX2_copyFrom 3 none, .fieldLink RX2 9 "LadderClimb$Rig" "base" "I", .fieldLink RX2 15 "LadderClimb$Rig" "height" "I", .fieldLink RX2 18 "LadderClimb$Rig" "weight" "I", .fieldLink RX2 21 "LadderClimb$Rig" "ground" "I", .fieldLink RX2 24 "LadderClimb$Rig" "wall" "I", .fieldLink RX2 27 "LadderClimb$Rig" "rope" "I", .fieldLink RX2 30 "LadderClimb$Rig" "falls" "I", .fieldLink RX2 33 "LadderClimb$Rig" "people" "I", .fieldLink RX2 36 "LadderClimb$Rig" "weights" "[I", .fieldLink RX2 40 "LadderClimb$Rig" "steps" "[I"] ++ wsX30 ++ wsX20)
def wsX0_save_r1 : List Cond := [Cond.fieldLink RX0 17 "LadderClimb$History" "next" "I", Cond.fieldLink RX0 11 "LadderClimb$History" "saved" "[LLadderClimb$Site;", Cond.fieldLink RX0 21 "LadderClimb$History" "size" "I", Cond.methodLink RX0 29 Lib.Math.min.name, Cond.static Lib.Math.min.name, Cond.initialized "java/lang/Math", Cond.code Lib.Math.min.name Lib.Math.min.code 2 (some .int), Cond.methodLink RX0 25 yX3_copyFrom, Cond.instanceMethod yX3_copyFrom, Cond.selects RX3 yX3_copyFrom yX3_copyFrom, Cond.initialized RX3, Cond.code yX3_copyFrom cX3_copyFrom 3 none, Cond.fieldLink RX3 11 "LadderClimb$Site" "rigs" "[LLadderClimb$Rig;", Cond.fieldLink RX3 17 "LadderClimb$Site" "fallen" "I", Cond.fieldLink RX3 21 "LadderClimb$Site" "climbed" "I", Cond.methodLink RX3 25 yX2_copyFrom, Cond.instanceMethod yX2_copyFrom, Cond.selects RX2 yX2_copyFrom yX2_copyFrom, Cond.initialized RX2, Cond.code yX2_copyFrom cX2_copyFrom 3 none, Cond.fieldLink RX2 9 "LadderClimb$Rig" "base" "I", Cond.fieldLink RX2 15 "LadderClimb$Rig" "height" "I", Cond.fieldLink RX2 18 "LadderClimb$Rig" "weight" "I", Cond.fieldLink RX2 21 "LadderClimb$Rig" "ground" "I"]
def wsX0_save_r2 : List Cond := [Cond.fieldLink RX2 24 "LadderClimb$Rig" "wall" "I", Cond.fieldLink RX2 27 "LadderClimb$Rig" "rope" "I", Cond.fieldLink RX2 30 "LadderClimb$Rig" "falls" "I", Cond.fieldLink RX2 33 "LadderClimb$Rig" "people" "I", Cond.fieldLink RX2 36 "LadderClimb$Rig" "weights" "[I", Cond.fieldLink RX2 40 "LadderClimb$Rig" "steps" "[I"]
def wsX0_save : List Cond := .code yX0_save cX0_save 2 none :: ((wsX0_save_r1 ++ wsX0_save_r2) ++ wsX00 ++ wsX30 ++ wsX20)
def wsX0_restoreTo_r1 : List Cond := [Cond.fieldLink RX0 17 "LadderClimb$History" "next" "I", Cond.fieldLink RX0 21 "LadderClimb$History" "size" "I", Cond.fieldLink RX0 11 "LadderClimb$History" "saved" "[LLadderClimb$Site;", Cond.methodLink RX0 25 yX3_copyFrom, Cond.instanceMethod yX3_copyFrom, Cond.selects RX3 yX3_copyFrom yX3_copyFrom, Cond.initialized RX3, Cond.code yX3_copyFrom cX3_copyFrom 3 none, Cond.fieldLink RX3 11 "LadderClimb$Site" "rigs" "[LLadderClimb$Rig;", Cond.fieldLink RX3 17 "LadderClimb$Site" "fallen" "I", Cond.fieldLink RX3 21 "LadderClimb$Site" "climbed" "I", Cond.methodLink RX3 25 yX2_copyFrom, Cond.instanceMethod yX2_copyFrom, Cond.selects RX2 yX2_copyFrom yX2_copyFrom, Cond.initialized RX2, Cond.code yX2_copyFrom cX2_copyFrom 3 none, Cond.fieldLink RX2 9 "LadderClimb$Rig" "base" "I", Cond.fieldLink RX2 15 "LadderClimb$Rig" "height" "I", Cond.fieldLink RX2 18 "LadderClimb$Rig" "weight" "I", Cond.fieldLink RX2 21 "LadderClimb$Rig" "ground" "I", Cond.fieldLink RX2 24 "LadderClimb$Rig" "wall" "I", Cond.fieldLink RX2 27 "LadderClimb$Rig" "rope" "I", Cond.fieldLink RX2 30 "LadderClimb$Rig" "falls" "I", Cond.fieldLink RX2 33 "LadderClimb$Rig" "people" "I"]
def wsX0_restoreTo_r2 : List Cond := [Cond.fieldLink RX2 36 "LadderClimb$Rig" "weights" "[I", Cond.fieldLink RX2 40 "LadderClimb$Rig" "steps" "[I"]
def wsX0_restoreTo : List Cond := .code yX0_restoreTo cX0_restoreTo 3 none :: ((wsX0_restoreTo_r1 ++ wsX0_restoreTo_r2) ++ wsX00 ++ wsX30 ++ wsX20)
def wsX1_init : List Cond := .code yX1_init cX1_init 1 none :: ([.methodLink RX1 3 objectInit, .instanceMethod objectInit, .code objectInit ⟨#[0xb1]⟩ 1 none, .fieldLink RX1 11 "LadderClimb$Reader" "place" "I", .fieldLink RX1 15 "LadderClimb$Reader" "least" "I", .fieldLink RX1 18 "LadderClimb$Reader" "most" "I", .fieldLink RX1 21 "LadderClimb$Reader" "ladder" "I", .fieldLink RX1 24 "LadderClimb$Reader" "work" "I", .fieldLink RX1 27 "LadderClimb$Reader" "number" "I"] ++ wsX10)
def wsX2_isFull : List Cond := .code yX2_isFull cX2_isFull 1 (some .boolean) :: ([.fieldLink RX2 33 "LadderClimb$Rig" "people" "I"] ++ wsX20)
def wsX2_bears : List Cond := .code yX2_bears cX2_bears 2 (some .boolean) :: ([.fieldLink RX2 33 "LadderClimb$Rig" "people" "I"] ++ wsX20)
def wsX2_weightOf : List Cond := .code yX2_weightOf cX2_weightOf 2 (some .int) :: ([.fieldLink RX2 36 "LadderClimb$Rig" "weights" "[I", .methodLink RX2 43 yX2_bears, .instanceMethod yX2_bears, .selects RX2 yX2_bears yX2_bears, .initialized RX2, .code yX2_bears cX2_bears 2 (some .boolean), .fieldLink RX2 33 "LadderClimb$Rig" "people" "I"] ++ wsX20)
def wsX2_stepOf : List Cond := .code yX2_stepOf cX2_stepOf 2 (some .int) :: ([.fieldLink RX2 40 "LadderClimb$Rig" "steps" "[I", .methodLink RX2 43 yX2_bears, .instanceMethod yX2_bears, .selects RX2 yX2_bears yX2_bears, .initialized RX2, .code yX2_bears cX2_bears 2 (some .boolean), .fieldLink RX2 33 "LadderClimb$Rig" "people" "I"] ++ wsX20)
def wsX2_setStep : List Cond := .code yX2_setStep cX2_setStep 3 none :: ([.fieldLink RX2 40 "LadderClimb$Rig" "steps" "[I", .methodLink RX2 43 yX2_bears, .instanceMethod yX2_bears, .selects RX2 yX2_bears yX2_bears, .initialized RX2, .code yX2_bears cX2_bears 2 (some .boolean), .fieldLink RX2 33 "LadderClimb$Rig" "people" "I"] ++ wsX20)
def wsX2_add : List Cond := .code yX2_add cX2_add 2 none :: ([.fieldLink RX2 33 "LadderClimb$Rig" "people" "I", .fieldLink RX2 36 "LadderClimb$Rig" "weights" "[I", .fieldLink RX2 40 "LadderClimb$Rig" "steps" "[I"] ++ wsX20)
def wsX2_remove : List Cond := .code yX2_remove cX2_remove 3 none :: ([.fieldLink RX2 36 "LadderClimb$Rig" "weights" "[I", .fieldLink RX2 40 "LadderClimb$Rig" "steps" "[I", .fieldLink RX2 33 "LadderClimb$Rig" "people" "I", .methodLink RX2 43 yX2_bears, .instanceMethod yX2_bears, .selects RX2 yX2_bears yX2_bears, .initialized RX2, .code yX2_bears cX2_bears 2 (some .boolean)] ++ wsX20)
def wsX2_removeAll : List Cond := .code yX2_removeAll cX2_removeAll 2 none :: ([.fieldLink RX2 36 "LadderClimb$Rig" "weights" "[I", .fieldLink RX2 40 "LadderClimb$Rig" "steps" "[I", .fieldLink RX2 33 "LadderClimb$Rig" "people" "I"] ++ wsX20)
def wsX2_load : List Cond := .code yX2_load cX2_load 3 (some .int) :: ([.fieldLink RX2 18 "LadderClimb$Rig" "weight" "I", .fieldLink RX2 36 "LadderClimb$Rig" "weights" "[I"] ++ wsX20)
def wsX2_moment : List Cond := .code yX2_moment cX2_moment 3 (some .int) :: ([.fieldLink RX2 18 "LadderClimb$Rig" "weight" "I", .fieldLink RX2 40 "LadderClimb$Rig" "steps" "[I", .fieldLink RX2 36 "LadderClimb$Rig" "weights" "[I", .fieldLink RX2 9 "LadderClimb$Rig" "base" "I"] ++ wsX20)
def wsX2_push : List Cond := .code yX2_push cX2_push 2 (some .int) :: ([.fieldLink RX2 9 "LadderClimb$Rig" "base" "I", .methodLink RX2 47 yX2_moment, .instanceMethod yX2_moment, .selects RX2 yX2_moment yX2_moment, .initialized RX2, .code yX2_moment cX2_moment 3 (some .int), .fieldLink RX2 18 "LadderClimb$Rig" "weight" "I", .fieldLink RX2 40 "LadderClimb$Rig" "steps" "[I", .fieldLink RX2 36 "LadderClimb$Rig" "weights" "[I"] ++ wsX20)
def wsX2_wallPercents : List Cond := .code yX2_wallPercents cX2_wallPercents 1 (some .int) :: ([.fieldLink RX2 24 "LadderClimb$Rig" "wall" "I"] ++ wsX20)
def wsX2_groundPercents : List Cond := .code yX2_groundPercents cX2_groundPercents 1 (some .int) :: ([.fieldLink RX2 21 "LadderClimb$Rig" "ground" "I"] ++ wsX20)
def wsX2_whatGivesWay_r1 : List Cond := [Cond.fieldLink RX2 15 "LadderClimb$Rig" "height" "I", Cond.methodLink RX2 58 Lib.Math.abs.name, Cond.static Lib.Math.abs.name, Cond.initialized "java/lang/Math", Cond.code Lib.Math.abs.name Lib.Math.abs.code 1 (some .int), Cond.fieldLink RX2 24 "LadderClimb$Rig" "wall" "I", Cond.fieldLink RX2 27 "LadderClimb$Rig" "rope" "I", Cond.methodLink RX2 51 yX2_push, Cond.instanceMethod yX2_push, Cond.selects RX2 yX2_push yX2_push, Cond.initialized RX2, Cond.code yX2_push cX2_push 2 (some .int), Cond.fieldLink RX2 9 "LadderClimb$Rig" "base" "I", Cond.methodLink RX2 47 yX2_moment, Cond.instanceMethod yX2_moment, Cond.selects RX2 yX2_moment yX2_moment, Cond.code yX2_moment cX2_moment 3 (some .int), Cond.fieldLink RX2 18 "LadderClimb$Rig" "weight" "I", Cond.fieldLink RX2 40 "LadderClimb$Rig" "steps" "[I", Cond.fieldLink RX2 36 "LadderClimb$Rig" "weights" "[I", Cond.methodLink RX2 55 yX2_load, Cond.instanceMethod yX2_load, Cond.selects RX2 yX2_load yX2_load, Cond.code yX2_load cX2_load 3 (some .int)]
def wsX2_whatGivesWay_r2 : List Cond := [Cond.methodLink RX2 63 yX2_wallPercents, Cond.instanceMethod yX2_wallPercents, Cond.selects RX2 yX2_wallPercents yX2_wallPercents, Cond.code yX2_wallPercents cX2_wallPercents 1 (some .int), Cond.methodLink RX2 66 yX2_groundPercents, Cond.instanceMethod yX2_groundPercents, Cond.selects RX2 yX2_groundPercents yX2_groundPercents, Cond.code yX2_groundPercents cX2_groundPercents 1 (some .int), Cond.fieldLink RX2 21 "LadderClimb$Rig" "ground" "I"]
def wsX2_whatGivesWay : List Cond := .code yX2_whatGivesWay cX2_whatGivesWay 5 (some .int) :: ((wsX2_whatGivesWay_r1 ++ wsX2_whatGivesWay_r2) ++ wsX20)
def wsJ9_floorDiv_7cf53 : List Cond := .code yJ9_floorDiv_7cf53 cJ9_floorDiv_7cf53 3 (some .int) :: ([])
def wsX2_leastByWall : List Cond := .code yX2_leastByWall cX2_leastByWall 3 (some .int) :: ([.fieldLink RX2 24 "LadderClimb$Rig" "wall" "I", .fieldLink RX2 15 "LadderClimb$Rig" "height" "I", .fieldLink RX2 9 "LadderClimb$Rig" "base" "I", .methodLink RX2 63 yX2_wallPercents, .instanceMethod yX2_wallPercents, .selects RX2 yX2_wallPercents yX2_wallPercents, .initialized RX2, .code yX2_wallPercents cX2_wallPercents 1 (some .int), .methodLink RX2 47 yX2_moment, .instanceMethod yX2_moment, .selects RX2 yX2_moment yX2_moment, .code yX2_moment cX2_moment 3 (some .int), .fieldLink RX2 18 "LadderClimb$Rig" "weight" "I", .fieldLink RX2 40 "LadderClimb$Rig" "steps" "[I", .fieldLink RX2 36 "LadderClimb$Rig" "weights" "[I", .methodLink RX2 88 yJ9_floorDiv_7cf53, .static yJ9_floorDiv_7cf53, .initialized RJ9, .code yJ9_floorDiv_7cf53 cJ9_floorDiv_7cf53 3 (some .int)] ++ wsX20)
def wsX2_leastByGround : List Cond := .code yX2_leastByGround cX2_leastByGround 3 (some .int) :: ([.fieldLink RX2 15 "LadderClimb$Rig" "height" "I", .fieldLink RX2 9 "LadderClimb$Rig" "base" "I", .fieldLink RX2 27 "LadderClimb$Rig" "rope" "I", .methodLink RX2 66 yX2_groundPercents, .instanceMethod yX2_groundPercents, .selects RX2 yX2_groundPercents yX2_groundPercents, .initialized RX2, .code yX2_groundPercents cX2_groundPercents 1 (some .int), .fieldLink RX2 21 "LadderClimb$Rig" "ground" "I", .methodLink RX2 55 yX2_load, .instanceMethod yX2_load, .selects RX2 yX2_load yX2_load, .code yX2_load cX2_load 3 (some .int), .fieldLink RX2 18 "LadderClimb$Rig" "weight" "I", .fieldLink RX2 36 "LadderClimb$Rig" "weights" "[I", .methodLink RX2 47 yX2_moment, .instanceMethod yX2_moment, .selects RX2 yX2_moment yX2_moment, .code yX2_moment cX2_moment 3 (some .int), .fieldLink RX2 40 "LadderClimb$Rig" "steps" "[I", .methodLink RX2 88 yJ9_floorDiv_7cf53, .static yJ9_floorDiv_7cf53, .initialized RJ9, .code yJ9_floorDiv_7cf53 cJ9_floorDiv_7cf53 3 (some .int)] ++ wsX20)
def wsX2_leastForce_r1 : List Cond := [Cond.methodLink RX2 75 Lib.Math.max.name, Cond.static Lib.Math.max.name, Cond.initialized "java/lang/Math", Cond.code Lib.Math.max.name Lib.Math.max.code 2 (some .int), Cond.methodLink RX2 82 yX2_leastByWall, Cond.instanceMethod yX2_leastByWall, Cond.selects RX2 yX2_leastByWall yX2_leastByWall, Cond.initialized RX2, Cond.code yX2_leastByWall cX2_leastByWall 3 (some .int), Cond.fieldLink RX2 24 "LadderClimb$Rig" "wall" "I", Cond.fieldLink RX2 15 "LadderClimb$Rig" "height" "I", Cond.fieldLink RX2 9 "LadderClimb$Rig" "base" "I", Cond.methodLink RX2 63 yX2_wallPercents, Cond.instanceMethod yX2_wallPercents, Cond.selects RX2 yX2_wallPercents yX2_wallPercents, Cond.code yX2_wallPercents cX2_wallPercents 1 (some .int), Cond.methodLink RX2 47 yX2_moment, Cond.instanceMethod yX2_moment, Cond.selects RX2 yX2_moment yX2_moment, Cond.code yX2_moment cX2_moment 3 (some .int), Cond.fieldLink RX2 18 "LadderClimb$Rig" "weight" "I", Cond.fieldLink RX2 40 "LadderClimb$Rig" "steps" "[I", Cond.fieldLink RX2 36 "LadderClimb$Rig" "weights" "[I", Cond.methodLink RX2 88 yJ9_floorDiv_7cf53]
def wsX2_leastForce_r2 : List Cond := [Cond.static yJ9_floorDiv_7cf53, Cond.initialized RJ9, Cond.code yJ9_floorDiv_7cf53 cJ9_floorDiv_7cf53 3 (some .int), Cond.methodLink RX2 85 yX2_leastByGround, Cond.instanceMethod yX2_leastByGround, Cond.selects RX2 yX2_leastByGround yX2_leastByGround, Cond.code yX2_leastByGround cX2_leastByGround 3 (some .int), Cond.fieldLink RX2 27 "LadderClimb$Rig" "rope" "I", Cond.methodLink RX2 66 yX2_groundPercents, Cond.instanceMethod yX2_groundPercents, Cond.selects RX2 yX2_groundPercents yX2_groundPercents, Cond.code yX2_groundPercents cX2_groundPercents 1 (some .int), Cond.fieldLink RX2 21 "LadderClimb$Rig" "ground" "I", Cond.methodLink RX2 55 yX2_load, Cond.instanceMethod yX2_load, Cond.selects RX2 yX2_load yX2_load, Cond.code yX2_load cX2_load 3 (some .int)]
def wsX2_leastForce : List Cond := .code yX2_leastForce cX2_leastForce 1 (some .int) :: ((wsX2_leastForce_r1 ++ wsX2_leastForce_r2) ++ wsX20)
def wsX2_greatestForce : List Cond := .code yX2_greatestForce cX2_greatestForce 3 (some .int) :: ([.fieldLink RX2 15 "LadderClimb$Rig" "height" "I", .fieldLink RX2 9 "LadderClimb$Rig" "base" "I", .methodLink RX2 63 yX2_wallPercents, .instanceMethod yX2_wallPercents, .selects RX2 yX2_wallPercents yX2_wallPercents, .initialized RX2, .code yX2_wallPercents cX2_wallPercents 1 (some .int), .fieldLink RX2 24 "LadderClimb$Rig" "wall" "I", .methodLink RX2 47 yX2_moment, .instanceMethod yX2_moment, .selects RX2 yX2_moment yX2_moment, .code yX2_moment cX2_moment 3 (some .int), .fieldLink RX2 18 "LadderClimb$Rig" "weight" "I", .fieldLink RX2 40 "LadderClimb$Rig" "steps" "[I", .fieldLink RX2 36 "LadderClimb$Rig" "weights" "[I", .methodLink RX2 88 yJ9_floorDiv_7cf53, .static yJ9_floorDiv_7cf53, .initialized RJ9, .code yJ9_floorDiv_7cf53 cJ9_floorDiv_7cf53 3 (some .int)] ++ wsX20)
def wsX2_stands_r1 : List Cond := [Cond.methodLink RX2 69 yX2_leastForce, Cond.instanceMethod yX2_leastForce, Cond.selects RX2 yX2_leastForce yX2_leastForce, Cond.initialized RX2, Cond.code yX2_leastForce cX2_leastForce 1 (some .int), Cond.methodLink RX2 75 Lib.Math.max.name, Cond.static Lib.Math.max.name, Cond.initialized "java/lang/Math", Cond.code Lib.Math.max.name Lib.Math.max.code 2 (some .int), Cond.methodLink RX2 82 yX2_leastByWall, Cond.instanceMethod yX2_leastByWall, Cond.selects RX2 yX2_leastByWall yX2_leastByWall, Cond.code yX2_leastByWall cX2_leastByWall 3 (some .int), Cond.fieldLink RX2 24 "LadderClimb$Rig" "wall" "I", Cond.fieldLink RX2 15 "LadderClimb$Rig" "height" "I", Cond.fieldLink RX2 9 "LadderClimb$Rig" "base" "I", Cond.methodLink RX2 63 yX2_wallPercents, Cond.instanceMethod yX2_wallPercents, Cond.selects RX2 yX2_wallPercents yX2_wallPercents, Cond.code yX2_wallPercents cX2_wallPercents 1 (some .int), Cond.methodLink RX2 47 yX2_moment, Cond.instanceMethod yX2_moment, Cond.selects RX2 yX2_moment yX2_moment, Cond.code yX2_moment cX2_moment 3 (some .int)]
def wsX2_stands_r2 : List Cond := [Cond.fieldLink RX2 18 "LadderClimb$Rig" "weight" "I", Cond.fieldLink RX2 40 "LadderClimb$Rig" "steps" "[I", Cond.fieldLink RX2 36 "LadderClimb$Rig" "weights" "[I", Cond.methodLink RX2 88 yJ9_floorDiv_7cf53, Cond.static yJ9_floorDiv_7cf53, Cond.initialized RJ9, Cond.code yJ9_floorDiv_7cf53 cJ9_floorDiv_7cf53 3 (some .int), Cond.methodLink RX2 85 yX2_leastByGround, Cond.instanceMethod yX2_leastByGround, Cond.selects RX2 yX2_leastByGround yX2_leastByGround, Cond.code yX2_leastByGround cX2_leastByGround 3 (some .int), Cond.fieldLink RX2 27 "LadderClimb$Rig" "rope" "I", Cond.methodLink RX2 66 yX2_groundPercents, Cond.instanceMethod yX2_groundPercents, Cond.selects RX2 yX2_groundPercents yX2_groundPercents, Cond.code yX2_groundPercents cX2_groundPercents 1 (some .int), Cond.fieldLink RX2 21 "LadderClimb$Rig" "ground" "I", Cond.methodLink RX2 55 yX2_load, Cond.instanceMethod yX2_load, Cond.selects RX2 yX2_load yX2_load, Cond.code yX2_load cX2_load 3 (some .int), Cond.methodLink RX2 72 yX2_greatestForce, Cond.instanceMethod yX2_greatestForce, Cond.selects RX2 yX2_greatestForce yX2_greatestForce]
def wsX2_stands_r3 : List Cond := [Cond.code yX2_greatestForce cX2_greatestForce 3 (some .int)]
def wsX2_stands : List Cond := .code yX2_stands cX2_stands 1 (some .boolean) :: ((wsX2_stands_r1 ++ (wsX2_stands_r2 ++ wsX2_stands_r3)) ++ wsX20)
def wsX2_forces_r1 : List Cond := [Cond.methodLink RX2 75 Lib.Math.max.name, Cond.static Lib.Math.max.name, Cond.initialized "java/lang/Math", Cond.code Lib.Math.max.name Lib.Math.max.code 2 (some .int), Cond.methodLink RX2 72 yX2_greatestForce, Cond.instanceMethod yX2_greatestForce, Cond.selects RX2 yX2_greatestForce yX2_greatestForce, Cond.initialized RX2, Cond.code yX2_greatestForce cX2_greatestForce 3 (some .int), Cond.fieldLink RX2 15 "LadderClimb$Rig" "height" "I", Cond.fieldLink RX2 9 "LadderClimb$Rig" "base" "I", Cond.methodLink RX2 63 yX2_wallPercents, Cond.instanceMethod yX2_wallPercents, Cond.selects RX2 yX2_wallPercents yX2_wallPercents, Cond.code yX2_wallPercents cX2_wallPercents 1 (some .int), Cond.fieldLink RX2 24 "LadderClimb$Rig" "wall" "I", Cond.methodLink RX2 47 yX2_moment, Cond.instanceMethod yX2_moment, Cond.selects RX2 yX2_moment yX2_moment, Cond.code yX2_moment cX2_moment 3 (some .int), Cond.fieldLink RX2 18 "LadderClimb$Rig" "weight" "I", Cond.fieldLink RX2 40 "LadderClimb$Rig" "steps" "[I", Cond.fieldLink RX2 36 "LadderClimb$Rig" "weights" "[I", Cond.methodLink RX2 88 yJ9_floorDiv_7cf53]
def wsX2_forces_r2 : List Cond := [Cond.static yJ9_floorDiv_7cf53, Cond.initialized RJ9, Cond.code yJ9_floorDiv_7cf53 cJ9_floorDiv_7cf53 3 (some .int), Cond.methodLink RX2 69 yX2_leastForce, Cond.instanceMethod yX2_leastForce, Cond.selects RX2 yX2_leastForce yX2_leastForce, Cond.code yX2_leastForce cX2_leastForce 1 (some .int), Cond.methodLink RX2 82 yX2_leastByWall, Cond.instanceMethod yX2_leastByWall, Cond.selects RX2 yX2_leastByWall yX2_leastByWall, Cond.code yX2_leastByWall cX2_leastByWall 3 (some .int), Cond.methodLink RX2 85 yX2_leastByGround, Cond.instanceMethod yX2_leastByGround, Cond.selects RX2 yX2_leastByGround yX2_leastByGround, Cond.code yX2_leastByGround cX2_leastByGround 3 (some .int), Cond.fieldLink RX2 27 "LadderClimb$Rig" "rope" "I", Cond.methodLink RX2 66 yX2_groundPercents, Cond.instanceMethod yX2_groundPercents, Cond.selects RX2 yX2_groundPercents yX2_groundPercents, Cond.code yX2_groundPercents cX2_groundPercents 1 (some .int), Cond.fieldLink RX2 21 "LadderClimb$Rig" "ground" "I", Cond.methodLink RX2 55 yX2_load, Cond.instanceMethod yX2_load, Cond.selects RX2 yX2_load yX2_load]
def wsX2_forces_r3 : List Cond := [Cond.code yX2_load cX2_load 3 (some .int)]
def wsX2_forces : List Cond := .code yX2_forces cX2_forces 1 (some .int) :: ((wsX2_forces_r1 ++ (wsX2_forces_r2 ++ wsX2_forces_r3)) ++ wsX20)
def wsX2_nearestForce_r1 : List Cond := [Cond.methodLink RX2 79 Lib.Math.min.name, Cond.static Lib.Math.min.name, Cond.initialized "java/lang/Math", Cond.code Lib.Math.min.name Lib.Math.min.code 2 (some .int), Cond.methodLink RX2 75 Lib.Math.max.name, Cond.static Lib.Math.max.name, Cond.code Lib.Math.max.name Lib.Math.max.code 2 (some .int), Cond.methodLink RX2 69 yX2_leastForce, Cond.instanceMethod yX2_leastForce, Cond.selects RX2 yX2_leastForce yX2_leastForce, Cond.initialized RX2, Cond.code yX2_leastForce cX2_leastForce 1 (some .int), Cond.methodLink RX2 82 yX2_leastByWall, Cond.instanceMethod yX2_leastByWall, Cond.selects RX2 yX2_leastByWall yX2_leastByWall, Cond.code yX2_leastByWall cX2_leastByWall 3 (some .int), Cond.fieldLink RX2 24 "LadderClimb$Rig" "wall" "I", Cond.fieldLink RX2 15 "LadderClimb$Rig" "height" "I", Cond.fieldLink RX2 9 "LadderClimb$Rig" "base" "I", Cond.methodLink RX2 63 yX2_wallPercents, Cond.instanceMethod yX2_wallPercents, Cond.selects RX2 yX2_wallPercents yX2_wallPercents, Cond.code yX2_wallPercents cX2_wallPercents 1 (some .int), Cond.methodLink RX2 47 yX2_moment]
def wsX2_nearestForce_r2 : List Cond := [Cond.instanceMethod yX2_moment, Cond.selects RX2 yX2_moment yX2_moment, Cond.code yX2_moment cX2_moment 3 (some .int), Cond.fieldLink RX2 18 "LadderClimb$Rig" "weight" "I", Cond.fieldLink RX2 40 "LadderClimb$Rig" "steps" "[I", Cond.fieldLink RX2 36 "LadderClimb$Rig" "weights" "[I", Cond.methodLink RX2 88 yJ9_floorDiv_7cf53, Cond.static yJ9_floorDiv_7cf53, Cond.initialized RJ9, Cond.code yJ9_floorDiv_7cf53 cJ9_floorDiv_7cf53 3 (some .int), Cond.methodLink RX2 85 yX2_leastByGround, Cond.instanceMethod yX2_leastByGround, Cond.selects RX2 yX2_leastByGround yX2_leastByGround, Cond.code yX2_leastByGround cX2_leastByGround 3 (some .int), Cond.fieldLink RX2 27 "LadderClimb$Rig" "rope" "I", Cond.methodLink RX2 66 yX2_groundPercents, Cond.instanceMethod yX2_groundPercents, Cond.selects RX2 yX2_groundPercents yX2_groundPercents, Cond.code yX2_groundPercents cX2_groundPercents 1 (some .int), Cond.fieldLink RX2 21 "LadderClimb$Rig" "ground" "I", Cond.methodLink RX2 55 yX2_load, Cond.instanceMethod yX2_load, Cond.selects RX2 yX2_load yX2_load, Cond.code yX2_load cX2_load 3 (some .int)]
def wsX2_nearestForce_r3 : List Cond := [Cond.methodLink RX2 72 yX2_greatestForce, Cond.instanceMethod yX2_greatestForce, Cond.selects RX2 yX2_greatestForce yX2_greatestForce, Cond.code yX2_greatestForce cX2_greatestForce 3 (some .int)]
def wsX2_nearestForce : List Cond := .code yX2_nearestForce cX2_nearestForce 1 (some .int) :: ((wsX2_nearestForce_r1 ++ (wsX2_nearestForce_r2 ++ wsX2_nearestForce_r3)) ++ wsX20)
def wsX3_standing_r1 : List Cond := [Cond.fieldLink RX3 11 "LadderClimb$Site" "rigs" "[LLadderClimb$Rig;", Cond.methodLink RX3 29 yX2_stands, Cond.instanceMethod yX2_stands, Cond.selects RX2 yX2_stands yX2_stands, Cond.initialized RX2, Cond.code yX2_stands cX2_stands 1 (some .boolean), Cond.methodLink RX2 69 yX2_leastForce, Cond.instanceMethod yX2_leastForce, Cond.selects RX2 yX2_leastForce yX2_leastForce, Cond.code yX2_leastForce cX2_leastForce 1 (some .int), Cond.methodLink RX2 75 Lib.Math.max.name, Cond.static Lib.Math.max.name, Cond.initialized "java/lang/Math", Cond.code Lib.Math.max.name Lib.Math.max.code 2 (some .int), Cond.methodLink RX2 82 yX2_leastByWall, Cond.instanceMethod yX2_leastByWall, Cond.selects RX2 yX2_leastByWall yX2_leastByWall, Cond.code yX2_leastByWall cX2_leastByWall 3 (some .int), Cond.fieldLink RX2 24 "LadderClimb$Rig" "wall" "I", Cond.fieldLink RX2 15 "LadderClimb$Rig" "height" "I", Cond.fieldLink RX2 9 "LadderClimb$Rig" "base" "I", Cond.methodLink RX2 63 yX2_wallPercents, Cond.instanceMethod yX2_wallPercents, Cond.selects RX2 yX2_wallPercents yX2_wallPercents]
def wsX3_standing_r2 : List Cond := [Cond.code yX2_wallPercents cX2_wallPercents 1 (some .int), Cond.methodLink RX2 47 yX2_moment, Cond.instanceMethod yX2_moment, Cond.selects RX2 yX2_moment yX2_moment, Cond.code yX2_moment cX2_moment 3 (some .int), Cond.fieldLink RX2 18 "LadderClimb$Rig" "weight" "I", Cond.fieldLink RX2 40 "LadderClimb$Rig" "steps" "[I", Cond.fieldLink RX2 36 "LadderClimb$Rig" "weights" "[I", Cond.methodLink RX2 88 yJ9_floorDiv_7cf53, Cond.static yJ9_floorDiv_7cf53, Cond.initialized RJ9, Cond.code yJ9_floorDiv_7cf53 cJ9_floorDiv_7cf53 3 (some .int), Cond.methodLink RX2 85 yX2_leastByGround, Cond.instanceMethod yX2_leastByGround, Cond.selects RX2 yX2_leastByGround yX2_leastByGround, Cond.code yX2_leastByGround cX2_leastByGround 3 (some .int), Cond.fieldLink RX2 27 "LadderClimb$Rig" "rope" "I", Cond.methodLink RX2 66 yX2_groundPercents, Cond.instanceMethod yX2_groundPercents, Cond.selects RX2 yX2_groundPercents yX2_groundPercents, Cond.code yX2_groundPercents cX2_groundPercents 1 (some .int), Cond.fieldLink RX2 21 "LadderClimb$Rig" "ground" "I", Cond.methodLink RX2 55 yX2_load, Cond.instanceMethod yX2_load]
def wsX3_standing_r3 : List Cond := [Cond.selects RX2 yX2_load yX2_load, Cond.code yX2_load cX2_load 3 (some .int), Cond.methodLink RX2 72 yX2_greatestForce, Cond.instanceMethod yX2_greatestForce, Cond.selects RX2 yX2_greatestForce yX2_greatestForce, Cond.code yX2_greatestForce cX2_greatestForce 3 (some .int)]
def wsX3_standing : List Cond := .code yX3_standing cX3_standing 3 (some .int) :: ((wsX3_standing_r1 ++ (wsX3_standing_r2 ++ wsX3_standing_r3)) ++ wsX30 ++ wsX20)
def wsX3_people : List Cond := .code yX3_people cX3_people 3 (some .int) :: ([.fieldLink RX3 11 "LadderClimb$Site" "rigs" "[LLadderClimb$Rig;", .fieldLink RX3 33 "LadderClimb$Rig" "people" "I"] ++ wsX30 ++ wsX20)
def wsX3_falls : List Cond := .code yX3_falls cX3_falls 3 (some .int) :: ([.fieldLink RX3 11 "LadderClimb$Site" "rigs" "[LLadderClimb$Rig;", .fieldLink RX3 36 "LadderClimb$Rig" "falls" "I"] ++ wsX30 ++ wsX20)
def wsX3_fall : List Cond := .code yX3_fall cX3_fall 2 none :: ([.fieldLink RX3 17 "LadderClimb$Site" "fallen" "I", .fieldLink RX3 33 "LadderClimb$Rig" "people" "I", .fieldLink RX3 36 "LadderClimb$Rig" "falls" "I", .methodLink RX3 42 yX2_removeAll, .instanceMethod yX2_removeAll, .selects RX2 yX2_removeAll yX2_removeAll, .initialized RX2, .code yX2_removeAll cX2_removeAll 2 none, .fieldLink RX2 36 "LadderClimb$Rig" "weights" "[I", .fieldLink RX2 40 "LadderClimb$Rig" "steps" "[I", .fieldLink RX2 33 "LadderClimb$Rig" "people" "I"] ++ wsX30 ++ wsX20)
def wsX3_fallsNow_r1 : List Cond := [Cond.fieldLink RX3 33 "LadderClimb$Rig" "people" "I", Cond.methodLink RX3 29 yX2_stands, Cond.instanceMethod yX2_stands, Cond.selects RX2 yX2_stands yX2_stands, Cond.initialized RX2, Cond.code yX2_stands cX2_stands 1 (some .boolean), Cond.methodLink RX2 69 yX2_leastForce, Cond.instanceMethod yX2_leastForce, Cond.selects RX2 yX2_leastForce yX2_leastForce, Cond.code yX2_leastForce cX2_leastForce 1 (some .int), Cond.methodLink RX2 75 Lib.Math.max.name, Cond.static Lib.Math.max.name, Cond.initialized "java/lang/Math", Cond.code Lib.Math.max.name Lib.Math.max.code 2 (some .int), Cond.methodLink RX2 82 yX2_leastByWall, Cond.instanceMethod yX2_leastByWall, Cond.selects RX2 yX2_leastByWall yX2_leastByWall, Cond.code yX2_leastByWall cX2_leastByWall 3 (some .int), Cond.fieldLink RX2 24 "LadderClimb$Rig" "wall" "I", Cond.fieldLink RX2 15 "LadderClimb$Rig" "height" "I", Cond.fieldLink RX2 9 "LadderClimb$Rig" "base" "I", Cond.methodLink RX2 63 yX2_wallPercents, Cond.instanceMethod yX2_wallPercents, Cond.selects RX2 yX2_wallPercents yX2_wallPercents]
def wsX3_fallsNow_r2 : List Cond := [Cond.code yX2_wallPercents cX2_wallPercents 1 (some .int), Cond.methodLink RX2 47 yX2_moment, Cond.instanceMethod yX2_moment, Cond.selects RX2 yX2_moment yX2_moment, Cond.code yX2_moment cX2_moment 3 (some .int), Cond.fieldLink RX2 18 "LadderClimb$Rig" "weight" "I", Cond.fieldLink RX2 40 "LadderClimb$Rig" "steps" "[I", Cond.fieldLink RX2 36 "LadderClimb$Rig" "weights" "[I", Cond.methodLink RX2 88 yJ9_floorDiv_7cf53, Cond.static yJ9_floorDiv_7cf53, Cond.initialized RJ9, Cond.code yJ9_floorDiv_7cf53 cJ9_floorDiv_7cf53 3 (some .int), Cond.methodLink RX2 85 yX2_leastByGround, Cond.instanceMethod yX2_leastByGround, Cond.selects RX2 yX2_leastByGround yX2_leastByGround, Cond.code yX2_leastByGround cX2_leastByGround 3 (some .int), Cond.fieldLink RX2 27 "LadderClimb$Rig" "rope" "I", Cond.methodLink RX2 66 yX2_groundPercents, Cond.instanceMethod yX2_groundPercents, Cond.selects RX2 yX2_groundPercents yX2_groundPercents, Cond.code yX2_groundPercents cX2_groundPercents 1 (some .int), Cond.fieldLink RX2 21 "LadderClimb$Rig" "ground" "I", Cond.methodLink RX2 55 yX2_load, Cond.instanceMethod yX2_load]
def wsX3_fallsNow_r3 : List Cond := [Cond.selects RX2 yX2_load yX2_load, Cond.code yX2_load cX2_load 3 (some .int), Cond.methodLink RX2 72 yX2_greatestForce, Cond.instanceMethod yX2_greatestForce, Cond.selects RX2 yX2_greatestForce yX2_greatestForce, Cond.code yX2_greatestForce cX2_greatestForce 3 (some .int), Cond.methodLink RX3 39 yX3_fall, Cond.instanceMethod yX3_fall, Cond.selects RX3 yX3_fall yX3_fall, Cond.initialized RX3, Cond.code yX3_fall cX3_fall 2 none, Cond.fieldLink RX3 17 "LadderClimb$Site" "fallen" "I", Cond.fieldLink RX3 36 "LadderClimb$Rig" "falls" "I", Cond.methodLink RX3 42 yX2_removeAll, Cond.instanceMethod yX2_removeAll, Cond.selects RX2 yX2_removeAll yX2_removeAll, Cond.code yX2_removeAll cX2_removeAll 2 none, Cond.fieldLink RX2 33 "LadderClimb$Rig" "people" "I"]
def wsX3_fallsNow : List Cond := .code yX3_fallsNow cX3_fallsNow 2 (some .boolean) :: ((wsX3_fallsNow_r1 ++ (wsX3_fallsNow_r2 ++ wsX3_fallsNow_r3)) ++ wsX20 ++ wsX30)
def wsX3_walk_r1 : List Cond := [Cond.methodLink RX3 49 Lib.Math.abs.name, Cond.static Lib.Math.abs.name, Cond.initialized "java/lang/Math", Cond.code Lib.Math.abs.name Lib.Math.abs.code 1 (some .int), Cond.fieldLink RX3 21 "LadderClimb$Site" "climbed" "I", Cond.methodLink RX3 45 yX2_stepOf, Cond.instanceMethod yX2_stepOf, Cond.selects RX2 yX2_stepOf yX2_stepOf, Cond.initialized RX2, Cond.code yX2_stepOf cX2_stepOf 2 (some .int), Cond.fieldLink RX2 40 "LadderClimb$Rig" "steps" "[I", Cond.methodLink RX2 43 yX2_bears, Cond.instanceMethod yX2_bears, Cond.selects RX2 yX2_bears yX2_bears, Cond.code yX2_bears cX2_bears 2 (some .boolean), Cond.fieldLink RX2 33 "LadderClimb$Rig" "people" "I", Cond.methodLink RX3 54 yX2_setStep, Cond.instanceMethod yX2_setStep, Cond.selects RX2 yX2_setStep yX2_setStep, Cond.code yX2_setStep cX2_setStep 3 none, Cond.methodLink RX3 29 yX2_stands, Cond.instanceMethod yX2_stands, Cond.selects RX2 yX2_stands yX2_stands, Cond.code yX2_stands cX2_stands 1 (some .boolean)]
def wsX3_walk_r2 : List Cond := [Cond.methodLink RX2 69 yX2_leastForce, Cond.instanceMethod yX2_leastForce, Cond.selects RX2 yX2_leastForce yX2_leastForce, Cond.code yX2_leastForce cX2_leastForce 1 (some .int), Cond.methodLink RX2 75 Lib.Math.max.name, Cond.static Lib.Math.max.name, Cond.code Lib.Math.max.name Lib.Math.max.code 2 (some .int), Cond.methodLink RX2 82 yX2_leastByWall, Cond.instanceMethod yX2_leastByWall, Cond.selects RX2 yX2_leastByWall yX2_leastByWall, Cond.code yX2_leastByWall cX2_leastByWall 3 (some .int), Cond.fieldLink RX2 24 "LadderClimb$Rig" "wall" "I", Cond.fieldLink RX2 15 "LadderClimb$Rig" "height" "I", Cond.fieldLink RX2 9 "LadderClimb$Rig" "base" "I", Cond.methodLink RX2 63 yX2_wallPercents, Cond.instanceMethod yX2_wallPercents, Cond.selects RX2 yX2_wallPercents yX2_wallPercents, Cond.code yX2_wallPercents cX2_wallPercents 1 (some .int), Cond.methodLink RX2 47 yX2_moment, Cond.instanceMethod yX2_moment, Cond.selects RX2 yX2_moment yX2_moment, Cond.code yX2_moment cX2_moment 3 (some .int), Cond.fieldLink RX2 18 "LadderClimb$Rig" "weight" "I", Cond.fieldLink RX2 36 "LadderClimb$Rig" "weights" "[I"]
def wsX3_walk_r3 : List Cond := [Cond.methodLink RX2 88 yJ9_floorDiv_7cf53, Cond.static yJ9_floorDiv_7cf53, Cond.initialized RJ9, Cond.code yJ9_floorDiv_7cf53 cJ9_floorDiv_7cf53 3 (some .int), Cond.methodLink RX2 85 yX2_leastByGround, Cond.instanceMethod yX2_leastByGround, Cond.selects RX2 yX2_leastByGround yX2_leastByGround, Cond.code yX2_leastByGround cX2_leastByGround 3 (some .int), Cond.fieldLink RX2 27 "LadderClimb$Rig" "rope" "I", Cond.methodLink RX2 66 yX2_groundPercents, Cond.instanceMethod yX2_groundPercents, Cond.selects RX2 yX2_groundPercents yX2_groundPercents, Cond.code yX2_groundPercents cX2_groundPercents 1 (some .int), Cond.fieldLink RX2 21 "LadderClimb$Rig" "ground" "I", Cond.methodLink RX2 55 yX2_load, Cond.instanceMethod yX2_load, Cond.selects RX2 yX2_load yX2_load, Cond.code yX2_load cX2_load 3 (some .int), Cond.methodLink RX2 72 yX2_greatestForce, Cond.instanceMethod yX2_greatestForce, Cond.selects RX2 yX2_greatestForce yX2_greatestForce, Cond.code yX2_greatestForce cX2_greatestForce 3 (some .int), Cond.methodLink RX3 39 yX3_fall, Cond.instanceMethod yX3_fall]
def wsX3_walk_r4 : List Cond := [Cond.selects RX3 yX3_fall yX3_fall, Cond.initialized RX3, Cond.code yX3_fall cX3_fall 2 none, Cond.fieldLink RX3 17 "LadderClimb$Site" "fallen" "I", Cond.fieldLink RX3 33 "LadderClimb$Rig" "people" "I", Cond.fieldLink RX3 36 "LadderClimb$Rig" "falls" "I", Cond.methodLink RX3 42 yX2_removeAll, Cond.instanceMethod yX2_removeAll, Cond.selects RX2 yX2_removeAll yX2_removeAll, Cond.code yX2_removeAll cX2_removeAll 2 none]
def wsX3_walk : List Cond := .code yX3_walk cX3_walk 8 (some .int) :: ((wsX3_walk_r1 ++ (wsX3_walk_r2 ++ (wsX3_walk_r3 ++ wsX3_walk_r4))) ++ wsX30 ++ wsX20)
def wsX4_init : List Cond := .code yX4_init cX4_init 1 none :: ([.methodLink RX4 3 objectInit, .instanceMethod objectInit, .code objectInit ⟨#[0xb1]⟩ 1 none, .arrayClass .int, .fieldLink RX4 9 "LadderClimb$Works" "codes" "[I", .fieldLink RX4 15 "LadderClimb$Works" "length" "I", .fieldLink RX4 19 "LadderClimb$Works" "cursor" "I", .classLink RX4 22 RX1, .instantiable RX1 6, .initialized RX1, .fieldLink RX4 25 "LadderClimb$Works" "reader" "LLadderClimb$Reader;", .instanceMethod yX1_init, .code yX1_init cX1_init 1 none, .methodLink RX1 3 objectInit, .fieldLink RX1 11 "LadderClimb$Reader" "place" "I", .fieldLink RX1 15 "LadderClimb$Reader" "least" "I", .fieldLink RX1 18 "LadderClimb$Reader" "most" "I", .fieldLink RX1 21 "LadderClimb$Reader" "ladder" "I", .fieldLink RX1 24 "LadderClimb$Reader" "work" "I", .fieldLink RX1 27 "LadderClimb$Reader" "number" "I"] ++ wsX40 ++ wsX10)
def wsX5_init_r1 : List Cond := [Cond.methodLink RX5 1 objectInit, Cond.instanceMethod objectInit, Cond.code objectInit ⟨#[0xb1]⟩ 1 none, Cond.classLink RX5 7 RX3, Cond.instantiable RX3 3, Cond.initialized RX3, Cond.fieldLink RX5 10 "LadderClimb" "site" "LLadderClimb$Site;", Cond.classLink RX5 16 RX0, Cond.instantiable RX0 3, Cond.initialized RX0, Cond.fieldLink RX5 19 "LadderClimb" "history" "LLadderClimb$History;", Cond.classLink RX5 23 RX4, Cond.instantiable RX4 4, Cond.initialized RX4, Cond.fieldLink RX5 26 "LadderClimb" "works" "LLadderClimb$Works;", Cond.classLink RX5 30 RX2, Cond.instantiable RX2 10, Cond.initialized RX2, Cond.fieldLink RX5 33 "LadderClimb" "trial" "LLadderClimb$Rig;", Cond.methodLink RX5 9 yX3_init, Cond.instanceMethod yX3_init, Cond.code yX3_init cX3_init 2 none, Cond.methodLink RX3 3 objectInit, Cond.classLink RX3 9 RX2]
def wsX5_init_r2 : List Cond := [Cond.fieldLink RX3 11 "LadderClimb$Site" "rigs" "[LLadderClimb$Rig;", Cond.fieldLink RX3 17 "LadderClimb$Site" "fallen" "I", Cond.fieldLink RX3 21 "LadderClimb$Site" "climbed" "I", Cond.instanceMethod yX2_init, Cond.code yX2_init cX2_init 1 none, Cond.methodLink RX2 3 objectInit, Cond.fieldLink RX2 9 "LadderClimb$Rig" "base" "I", Cond.fieldLink RX2 15 "LadderClimb$Rig" "height" "I", Cond.fieldLink RX2 18 "LadderClimb$Rig" "weight" "I", Cond.fieldLink RX2 21 "LadderClimb$Rig" "ground" "I", Cond.fieldLink RX2 24 "LadderClimb$Rig" "wall" "I", Cond.fieldLink RX2 27 "LadderClimb$Rig" "rope" "I", Cond.fieldLink RX2 30 "LadderClimb$Rig" "falls" "I", Cond.fieldLink RX2 33 "LadderClimb$Rig" "people" "I", Cond.arrayClass .int, Cond.fieldLink RX2 36 "LadderClimb$Rig" "weights" "[I", Cond.fieldLink RX2 40 "LadderClimb$Rig" "steps" "[I", Cond.methodLink RX5 18 yX0_init, Cond.instanceMethod yX0_init, Cond.code yX0_init cX0_init 2 none, Cond.methodLink RX0 3 objectInit, Cond.classLink RX0 9 RX3, Cond.fieldLink RX0 11 "LadderClimb$History" "saved" "[LLadderClimb$Site;", Cond.fieldLink RX0 17 "LadderClimb$History" "next" "I"]
def wsX5_init_r3 : List Cond := [Cond.fieldLink RX0 21 "LadderClimb$History" "size" "I", Cond.methodLink RX0 24 yX3_init, Cond.instanceMethod yX4_init, Cond.code yX4_init cX4_init 1 none, Cond.methodLink RX4 3 objectInit, Cond.fieldLink RX4 9 "LadderClimb$Works" "codes" "[I", Cond.fieldLink RX4 15 "LadderClimb$Works" "length" "I", Cond.fieldLink RX4 19 "LadderClimb$Works" "cursor" "I", Cond.classLink RX4 22 RX1, Cond.instantiable RX1 6, Cond.initialized RX1, Cond.fieldLink RX4 25 "LadderClimb$Works" "reader" "LLadderClimb$Reader;", Cond.instanceMethod yX1_init, Cond.code yX1_init cX1_init 1 none, Cond.methodLink RX1 3 objectInit, Cond.fieldLink RX1 11 "LadderClimb$Reader" "place" "I", Cond.fieldLink RX1 15 "LadderClimb$Reader" "least" "I", Cond.fieldLink RX1 18 "LadderClimb$Reader" "most" "I", Cond.fieldLink RX1 21 "LadderClimb$Reader" "ladder" "I", Cond.fieldLink RX1 24 "LadderClimb$Reader" "work" "I", Cond.fieldLink RX1 27 "LadderClimb$Reader" "number" "I"]
def wsX5_init : List Cond := .code yX5_init cX5_init 1 none :: ((wsX5_init_r1 ++ (wsX5_init_r2 ++ wsX5_init_r3)) ++ wsX30 ++ wsX50 ++ wsX00 ++ wsX40 ++ wsX20 ++ wsX10)
def wsX5_rigOf : List Cond := .code yX5_rigOf cX5_rigOf 2 (some (.object "LadderClimb$Rig")) :: ([.classLink RX5 280 "java/lang/IndexOutOfBoundsException", .initialized "java/lang/IndexOutOfBoundsException", .fieldLink RX5 10 "LadderClimb" "site" "LLadderClimb$Site;", .fieldLink RX5 285 "LadderClimb$Site" "rigs" "[LLadderClimb$Rig;"] ++ wsX50 ++ wsX30 ++ (vx_atS RX5 284 "java/lang/IndexOutOfBoundsException" ["java/lang/RuntimeException", "java/lang/Exception"]).filter goodWord)
def wsX5_demandRange : List Cond := .code yX5_demandRange cX5_demandRange 3 none :: ([.classLink RX5 118 "java/lang/IllegalArgumentException", .initialized "java/lang/IllegalArgumentException"] ++ (vx_atS RX5 122 "java/lang/IllegalArgumentException" ["java/lang/RuntimeException", "java/lang/Exception"]).filter goodWord)
def wsX5_put_r1 : List Cond := [Cond.fieldLink RX5 19 "LadderClimb" "history" "LLadderClimb$History;", Cond.fieldLink RX5 10 "LadderClimb" "site" "LLadderClimb$Site;", Cond.fieldLink RX5 49 "LadderClimb$Rig" "base" "I", Cond.fieldLink RX5 53 "LadderClimb$Rig" "height" "I", Cond.fieldLink RX5 56 "LadderClimb$Rig" "weight" "I", Cond.methodLink RX5 37 yX5_rigOf, Cond.instanceMethod yX5_rigOf, Cond.selects RX5 yX5_rigOf yX5_rigOf, Cond.initialized RX5, Cond.code yX5_rigOf cX5_rigOf 2 (some (.object "LadderClimb$Rig")), Cond.classLink RX5 280 "java/lang/IndexOutOfBoundsException", Cond.initialized "java/lang/IndexOutOfBoundsException", Cond.fieldLink RX5 285 "LadderClimb$Site" "rigs" "[LLadderClimb$Rig;", Cond.methodLink RX5 41 yX5_demandRange, Cond.static yX5_demandRange, Cond.code yX5_demandRange cX5_demandRange 3 none, Cond.classLink RX5 118 "java/lang/IllegalArgumentException", Cond.initialized "java/lang/IllegalArgumentException", Cond.methodLink RX5 45 yX0_save, Cond.instanceMethod yX0_save, Cond.selects RX0 yX0_save yX0_save, Cond.initialized RX0, Cond.code yX0_save cX0_save 2 none, Cond.fieldLink RX0 17 "LadderClimb$History" "next" "I"]
def wsX5_put_r2 : List Cond := [Cond.fieldLink RX0 11 "LadderClimb$History" "saved" "[LLadderClimb$Site;", Cond.fieldLink RX0 21 "LadderClimb$History" "size" "I", Cond.methodLink RX0 29 Lib.Math.min.name, Cond.static Lib.Math.min.name, Cond.initialized "java/lang/Math", Cond.code Lib.Math.min.name Lib.Math.min.code 2 (some .int), Cond.methodLink RX0 25 yX3_copyFrom, Cond.instanceMethod yX3_copyFrom, Cond.selects RX3 yX3_copyFrom yX3_copyFrom, Cond.initialized RX3, Cond.code yX3_copyFrom cX3_copyFrom 3 none, Cond.fieldLink RX3 11 "LadderClimb$Site" "rigs" "[LLadderClimb$Rig;", Cond.fieldLink RX3 17 "LadderClimb$Site" "fallen" "I", Cond.fieldLink RX3 21 "LadderClimb$Site" "climbed" "I", Cond.methodLink RX3 25 yX2_copyFrom, Cond.instanceMethod yX2_copyFrom, Cond.selects RX2 yX2_copyFrom yX2_copyFrom, Cond.initialized RX2, Cond.code yX2_copyFrom cX2_copyFrom 3 none, Cond.fieldLink RX2 9 "LadderClimb$Rig" "base" "I", Cond.fieldLink RX2 15 "LadderClimb$Rig" "height" "I", Cond.fieldLink RX2 18 "LadderClimb$Rig" "weight" "I", Cond.fieldLink RX2 21 "LadderClimb$Rig" "ground" "I", Cond.fieldLink RX2 24 "LadderClimb$Rig" "wall" "I"]
def wsX5_put_r3 : List Cond := [Cond.fieldLink RX2 27 "LadderClimb$Rig" "rope" "I", Cond.fieldLink RX2 30 "LadderClimb$Rig" "falls" "I", Cond.fieldLink RX2 33 "LadderClimb$Rig" "people" "I", Cond.fieldLink RX2 36 "LadderClimb$Rig" "weights" "[I", Cond.fieldLink RX2 40 "LadderClimb$Rig" "steps" "[I", Cond.methodLink RX5 59 yX3_fallsNow, Cond.instanceMethod yX3_fallsNow, Cond.selects RX3 yX3_fallsNow yX3_fallsNow, Cond.code yX3_fallsNow cX3_fallsNow 2 (some .boolean), Cond.fieldLink RX3 33 "LadderClimb$Rig" "people" "I", Cond.methodLink RX3 29 yX2_stands, Cond.instanceMethod yX2_stands, Cond.selects RX2 yX2_stands yX2_stands, Cond.code yX2_stands cX2_stands 1 (some .boolean), Cond.methodLink RX2 69 yX2_leastForce, Cond.instanceMethod yX2_leastForce, Cond.selects RX2 yX2_leastForce yX2_leastForce, Cond.code yX2_leastForce cX2_leastForce 1 (some .int), Cond.methodLink RX2 75 Lib.Math.max.name, Cond.static Lib.Math.max.name, Cond.code Lib.Math.max.name Lib.Math.max.code 2 (some .int), Cond.methodLink RX2 82 yX2_leastByWall, Cond.instanceMethod yX2_leastByWall, Cond.selects RX2 yX2_leastByWall yX2_leastByWall]
def wsX5_put_r4 : List Cond := [Cond.code yX2_leastByWall cX2_leastByWall 3 (some .int), Cond.methodLink RX2 63 yX2_wallPercents, Cond.instanceMethod yX2_wallPercents, Cond.selects RX2 yX2_wallPercents yX2_wallPercents, Cond.code yX2_wallPercents cX2_wallPercents 1 (some .int), Cond.methodLink RX2 47 yX2_moment, Cond.instanceMethod yX2_moment, Cond.selects RX2 yX2_moment yX2_moment, Cond.code yX2_moment cX2_moment 3 (some .int), Cond.methodLink RX2 88 yJ9_floorDiv_7cf53, Cond.static yJ9_floorDiv_7cf53, Cond.initialized RJ9, Cond.code yJ9_floorDiv_7cf53 cJ9_floorDiv_7cf53 3 (some .int), Cond.methodLink RX2 85 yX2_leastByGround, Cond.instanceMethod yX2_leastByGround, Cond.selects RX2 yX2_leastByGround yX2_leastByGround, Cond.code yX2_leastByGround cX2_leastByGround 3 (some .int), Cond.methodLink RX2 66 yX2_groundPercents, Cond.instanceMethod yX2_groundPercents, Cond.selects RX2 yX2_groundPercents yX2_groundPercents, Cond.code yX2_groundPercents cX2_groundPercents 1 (some .int), Cond.methodLink RX2 55 yX2_load, Cond.instanceMethod yX2_load, Cond.selects RX2 yX2_load yX2_load]
def wsX5_put_r5 : List Cond := [Cond.code yX2_load cX2_load 3 (some .int), Cond.methodLink RX2 72 yX2_greatestForce, Cond.instanceMethod yX2_greatestForce, Cond.selects RX2 yX2_greatestForce yX2_greatestForce, Cond.code yX2_greatestForce cX2_greatestForce 3 (some .int), Cond.methodLink RX3 39 yX3_fall, Cond.instanceMethod yX3_fall, Cond.selects RX3 yX3_fall yX3_fall, Cond.code yX3_fall cX3_fall 2 none, Cond.fieldLink RX3 36 "LadderClimb$Rig" "falls" "I", Cond.methodLink RX3 42 yX2_removeAll, Cond.instanceMethod yX2_removeAll, Cond.selects RX2 yX2_removeAll yX2_removeAll, Cond.code yX2_removeAll cX2_removeAll 2 none]
def wsX5_put : List Cond := .code yX5_put cX5_put 6 (some .int) :: ((wsX5_put_r1 ++ (wsX5_put_r2 ++ (wsX5_put_r3 ++ (wsX5_put_r4 ++ wsX5_put_r5)))) ++ wsX50 ++ wsX20 ++ wsX30 ++ wsX00 ++ (vx_atS RX5 284 "java/lang/IndexOutOfBoundsException" ["java/lang/RuntimeException", "java/lang/Exception"]).filter goodWord ++ (vx_atS RX5 122 "java/lang/IllegalArgumentException" ["java/lang/RuntimeException", "java/lang/Exception"]).filter goodWord)
def wsX5_kinds_r1 : List Cond := [Cond.fieldLink RX5 19 "LadderClimb" "history" "LLadderClimb$History;", Cond.fieldLink RX5 10 "LadderClimb" "site" "LLadderClimb$Site;", Cond.fieldLink RX5 63 "LadderClimb$Rig" "ground" "I", Cond.fieldLink RX5 66 "LadderClimb$Rig" "wall" "I", Cond.methodLink RX5 37 yX5_rigOf, Cond.instanceMethod yX5_rigOf, Cond.selects RX5 yX5_rigOf yX5_rigOf, Cond.initialized RX5, Cond.code yX5_rigOf cX5_rigOf 2 (some (.object "LadderClimb$Rig")), Cond.classLink RX5 280 "java/lang/IndexOutOfBoundsException", Cond.initialized "java/lang/IndexOutOfBoundsException", Cond.fieldLink RX5 285 "LadderClimb$Site" "rigs" "[LLadderClimb$Rig;", Cond.methodLink RX5 41 yX5_demandRange, Cond.static yX5_demandRange, Cond.code yX5_demandRange cX5_demandRange 3 none, Cond.classLink RX5 118 "java/lang/IllegalArgumentException", Cond.initialized "java/lang/IllegalArgumentException", Cond.methodLink RX5 45 yX0_save, Cond.instanceMethod yX0_save, Cond.selects RX0 yX0_save yX0_save, Cond.initialized RX0, Cond.code yX0_save cX0_save 2 none, Cond.fieldLink RX0 17 "LadderClimb$History" "next" "I", Cond.fieldLink RX0 11 "LadderClimb$History" "saved" "[LLadderClimb$Site;"]
def wsX5_kinds_r2 : List Cond := [Cond.fieldLink RX0 21 "LadderClimb$History" "size" "I", Cond.methodLink RX0 29 Lib.Math.min.name, Cond.static Lib.Math.min.name, Cond.initialized "java/lang/Math", Cond.code Lib.Math.min.name Lib.Math.min.code 2 (some .int), Cond.methodLink RX0 25 yX3_copyFrom, Cond.instanceMethod yX3_copyFrom, Cond.selects RX3 yX3_copyFrom yX3_copyFrom, Cond.initialized RX3, Cond.code yX3_copyFrom cX3_copyFrom 3 none, Cond.fieldLink RX3 11 "LadderClimb$Site" "rigs" "[LLadderClimb$Rig;", Cond.fieldLink RX3 17 "LadderClimb$Site" "fallen" "I", Cond.fieldLink RX3 21 "LadderClimb$Site" "climbed" "I", Cond.methodLink RX3 25 yX2_copyFrom, Cond.instanceMethod yX2_copyFrom, Cond.selects RX2 yX2_copyFrom yX2_copyFrom, Cond.initialized RX2, Cond.code yX2_copyFrom cX2_copyFrom 3 none, Cond.fieldLink RX2 9 "LadderClimb$Rig" "base" "I", Cond.fieldLink RX2 15 "LadderClimb$Rig" "height" "I", Cond.fieldLink RX2 18 "LadderClimb$Rig" "weight" "I", Cond.fieldLink RX2 21 "LadderClimb$Rig" "ground" "I", Cond.fieldLink RX2 24 "LadderClimb$Rig" "wall" "I", Cond.fieldLink RX2 27 "LadderClimb$Rig" "rope" "I"]
def wsX5_kinds_r3 : List Cond := [Cond.fieldLink RX2 30 "LadderClimb$Rig" "falls" "I", Cond.fieldLink RX2 33 "LadderClimb$Rig" "people" "I", Cond.fieldLink RX2 36 "LadderClimb$Rig" "weights" "[I", Cond.fieldLink RX2 40 "LadderClimb$Rig" "steps" "[I", Cond.methodLink RX5 59 yX3_fallsNow, Cond.instanceMethod yX3_fallsNow, Cond.selects RX3 yX3_fallsNow yX3_fallsNow, Cond.code yX3_fallsNow cX3_fallsNow 2 (some .boolean), Cond.fieldLink RX3 33 "LadderClimb$Rig" "people" "I", Cond.methodLink RX3 29 yX2_stands, Cond.instanceMethod yX2_stands, Cond.selects RX2 yX2_stands yX2_stands, Cond.code yX2_stands cX2_stands 1 (some .boolean), Cond.methodLink RX2 69 yX2_leastForce, Cond.instanceMethod yX2_leastForce, Cond.selects RX2 yX2_leastForce yX2_leastForce, Cond.code yX2_leastForce cX2_leastForce 1 (some .int), Cond.methodLink RX2 75 Lib.Math.max.name, Cond.static Lib.Math.max.name, Cond.code Lib.Math.max.name Lib.Math.max.code 2 (some .int), Cond.methodLink RX2 82 yX2_leastByWall, Cond.instanceMethod yX2_leastByWall, Cond.selects RX2 yX2_leastByWall yX2_leastByWall, Cond.code yX2_leastByWall cX2_leastByWall 3 (some .int)]
def wsX5_kinds_r4 : List Cond := [Cond.methodLink RX2 63 yX2_wallPercents, Cond.instanceMethod yX2_wallPercents, Cond.selects RX2 yX2_wallPercents yX2_wallPercents, Cond.code yX2_wallPercents cX2_wallPercents 1 (some .int), Cond.methodLink RX2 47 yX2_moment, Cond.instanceMethod yX2_moment, Cond.selects RX2 yX2_moment yX2_moment, Cond.code yX2_moment cX2_moment 3 (some .int), Cond.methodLink RX2 88 yJ9_floorDiv_7cf53, Cond.static yJ9_floorDiv_7cf53, Cond.initialized RJ9, Cond.code yJ9_floorDiv_7cf53 cJ9_floorDiv_7cf53 3 (some .int), Cond.methodLink RX2 85 yX2_leastByGround, Cond.instanceMethod yX2_leastByGround, Cond.selects RX2 yX2_leastByGround yX2_leastByGround, Cond.code yX2_leastByGround cX2_leastByGround 3 (some .int), Cond.methodLink RX2 66 yX2_groundPercents, Cond.instanceMethod yX2_groundPercents, Cond.selects RX2 yX2_groundPercents yX2_groundPercents, Cond.code yX2_groundPercents cX2_groundPercents 1 (some .int), Cond.methodLink RX2 55 yX2_load, Cond.instanceMethod yX2_load, Cond.selects RX2 yX2_load yX2_load, Cond.code yX2_load cX2_load 3 (some .int)]
def wsX5_kinds_r5 : List Cond := [Cond.methodLink RX2 72 yX2_greatestForce, Cond.instanceMethod yX2_greatestForce, Cond.selects RX2 yX2_greatestForce yX2_greatestForce, Cond.code yX2_greatestForce cX2_greatestForce 3 (some .int), Cond.methodLink RX3 39 yX3_fall, Cond.instanceMethod yX3_fall, Cond.selects RX3 yX3_fall yX3_fall, Cond.code yX3_fall cX3_fall 2 none, Cond.fieldLink RX3 36 "LadderClimb$Rig" "falls" "I", Cond.methodLink RX3 42 yX2_removeAll, Cond.instanceMethod yX2_removeAll, Cond.selects RX2 yX2_removeAll yX2_removeAll, Cond.code yX2_removeAll cX2_removeAll 2 none]
def wsX5_kinds : List Cond := .code yX5_kinds cX5_kinds 5 (some .int) :: ((wsX5_kinds_r1 ++ (wsX5_kinds_r2 ++ (wsX5_kinds_r3 ++ (wsX5_kinds_r4 ++ wsX5_kinds_r5)))) ++ wsX50 ++ wsX20 ++ wsX30 ++ wsX00 ++ (vx_atS RX5 284 "java/lang/IndexOutOfBoundsException" ["java/lang/RuntimeException", "java/lang/Exception"]).filter goodWord ++ (vx_atS RX5 122 "java/lang/IllegalArgumentException" ["java/lang/RuntimeException", "java/lang/Exception"]).filter goodWord)
def wsX5_rope_r1 : List Cond := [Cond.fieldLink RX5 19 "LadderClimb" "history" "LLadderClimb$History;", Cond.fieldLink RX5 10 "LadderClimb" "site" "LLadderClimb$Site;", Cond.fieldLink RX5 69 "LadderClimb$Rig" "rope" "I", Cond.methodLink RX5 37 yX5_rigOf, Cond.instanceMethod yX5_rigOf, Cond.selects RX5 yX5_rigOf yX5_rigOf, Cond.initialized RX5, Cond.code yX5_rigOf cX5_rigOf 2 (some (.object "LadderClimb$Rig")), Cond.classLink RX5 280 "java/lang/IndexOutOfBoundsException", Cond.initialized "java/lang/IndexOutOfBoundsException", Cond.fieldLink RX5 285 "LadderClimb$Site" "rigs" "[LLadderClimb$Rig;", Cond.methodLink RX5 41 yX5_demandRange, Cond.static yX5_demandRange, Cond.code yX5_demandRange cX5_demandRange 3 none, Cond.classLink RX5 118 "java/lang/IllegalArgumentException", Cond.initialized "java/lang/IllegalArgumentException", Cond.methodLink RX5 45 yX0_save, Cond.instanceMethod yX0_save, Cond.selects RX0 yX0_save yX0_save, Cond.initialized RX0, Cond.code yX0_save cX0_save 2 none, Cond.fieldLink RX0 17 "LadderClimb$History" "next" "I", Cond.fieldLink RX0 11 "LadderClimb$History" "saved" "[LLadderClimb$Site;", Cond.fieldLink RX0 21 "LadderClimb$History" "size" "I"]
def wsX5_rope_r2 : List Cond := [Cond.methodLink RX0 29 Lib.Math.min.name, Cond.static Lib.Math.min.name, Cond.initialized "java/lang/Math", Cond.code Lib.Math.min.name Lib.Math.min.code 2 (some .int), Cond.methodLink RX0 25 yX3_copyFrom, Cond.instanceMethod yX3_copyFrom, Cond.selects RX3 yX3_copyFrom yX3_copyFrom, Cond.initialized RX3, Cond.code yX3_copyFrom cX3_copyFrom 3 none, Cond.fieldLink RX3 11 "LadderClimb$Site" "rigs" "[LLadderClimb$Rig;", Cond.fieldLink RX3 17 "LadderClimb$Site" "fallen" "I", Cond.fieldLink RX3 21 "LadderClimb$Site" "climbed" "I", Cond.methodLink RX3 25 yX2_copyFrom, Cond.instanceMethod yX2_copyFrom, Cond.selects RX2 yX2_copyFrom yX2_copyFrom, Cond.initialized RX2, Cond.code yX2_copyFrom cX2_copyFrom 3 none, Cond.fieldLink RX2 9 "LadderClimb$Rig" "base" "I", Cond.fieldLink RX2 15 "LadderClimb$Rig" "height" "I", Cond.fieldLink RX2 18 "LadderClimb$Rig" "weight" "I", Cond.fieldLink RX2 21 "LadderClimb$Rig" "ground" "I", Cond.fieldLink RX2 24 "LadderClimb$Rig" "wall" "I", Cond.fieldLink RX2 27 "LadderClimb$Rig" "rope" "I", Cond.fieldLink RX2 30 "LadderClimb$Rig" "falls" "I"]
def wsX5_rope_r3 : List Cond := [Cond.fieldLink RX2 33 "LadderClimb$Rig" "people" "I", Cond.fieldLink RX2 36 "LadderClimb$Rig" "weights" "[I", Cond.fieldLink RX2 40 "LadderClimb$Rig" "steps" "[I", Cond.methodLink RX5 59 yX3_fallsNow, Cond.instanceMethod yX3_fallsNow, Cond.selects RX3 yX3_fallsNow yX3_fallsNow, Cond.code yX3_fallsNow cX3_fallsNow 2 (some .boolean), Cond.fieldLink RX3 33 "LadderClimb$Rig" "people" "I", Cond.methodLink RX3 29 yX2_stands, Cond.instanceMethod yX2_stands, Cond.selects RX2 yX2_stands yX2_stands, Cond.code yX2_stands cX2_stands 1 (some .boolean), Cond.methodLink RX2 69 yX2_leastForce, Cond.instanceMethod yX2_leastForce, Cond.selects RX2 yX2_leastForce yX2_leastForce, Cond.code yX2_leastForce cX2_leastForce 1 (some .int), Cond.methodLink RX2 75 Lib.Math.max.name, Cond.static Lib.Math.max.name, Cond.code Lib.Math.max.name Lib.Math.max.code 2 (some .int), Cond.methodLink RX2 82 yX2_leastByWall, Cond.instanceMethod yX2_leastByWall, Cond.selects RX2 yX2_leastByWall yX2_leastByWall, Cond.code yX2_leastByWall cX2_leastByWall 3 (some .int), Cond.methodLink RX2 63 yX2_wallPercents]
def wsX5_rope_r4 : List Cond := [Cond.instanceMethod yX2_wallPercents, Cond.selects RX2 yX2_wallPercents yX2_wallPercents, Cond.code yX2_wallPercents cX2_wallPercents 1 (some .int), Cond.methodLink RX2 47 yX2_moment, Cond.instanceMethod yX2_moment, Cond.selects RX2 yX2_moment yX2_moment, Cond.code yX2_moment cX2_moment 3 (some .int), Cond.methodLink RX2 88 yJ9_floorDiv_7cf53, Cond.static yJ9_floorDiv_7cf53, Cond.initialized RJ9, Cond.code yJ9_floorDiv_7cf53 cJ9_floorDiv_7cf53 3 (some .int), Cond.methodLink RX2 85 yX2_leastByGround, Cond.instanceMethod yX2_leastByGround, Cond.selects RX2 yX2_leastByGround yX2_leastByGround, Cond.code yX2_leastByGround cX2_leastByGround 3 (some .int), Cond.methodLink RX2 66 yX2_groundPercents, Cond.instanceMethod yX2_groundPercents, Cond.selects RX2 yX2_groundPercents yX2_groundPercents, Cond.code yX2_groundPercents cX2_groundPercents 1 (some .int), Cond.methodLink RX2 55 yX2_load, Cond.instanceMethod yX2_load, Cond.selects RX2 yX2_load yX2_load, Cond.code yX2_load cX2_load 3 (some .int), Cond.methodLink RX2 72 yX2_greatestForce]
def wsX5_rope_r5 : List Cond := [Cond.instanceMethod yX2_greatestForce, Cond.selects RX2 yX2_greatestForce yX2_greatestForce, Cond.code yX2_greatestForce cX2_greatestForce 3 (some .int), Cond.methodLink RX3 39 yX3_fall, Cond.instanceMethod yX3_fall, Cond.selects RX3 yX3_fall yX3_fall, Cond.code yX3_fall cX3_fall 2 none, Cond.fieldLink RX3 36 "LadderClimb$Rig" "falls" "I", Cond.methodLink RX3 42 yX2_removeAll, Cond.instanceMethod yX2_removeAll, Cond.selects RX2 yX2_removeAll yX2_removeAll, Cond.code yX2_removeAll cX2_removeAll 2 none]
def wsX5_rope : List Cond := .code yX5_rope cX5_rope 4 (some .int) :: ((wsX5_rope_r1 ++ (wsX5_rope_r2 ++ (wsX5_rope_r3 ++ (wsX5_rope_r4 ++ wsX5_rope_r5)))) ++ wsX50 ++ wsX20 ++ wsX30 ++ wsX00 ++ (vx_atS RX5 284 "java/lang/IndexOutOfBoundsException" ["java/lang/RuntimeException", "java/lang/Exception"]).filter goodWord ++ (vx_atS RX5 122 "java/lang/IllegalArgumentException" ["java/lang/RuntimeException", "java/lang/Exception"]).filter goodWord)
def wsX5_on_r1 : List Cond := [Cond.classLink RX5 76 "java/lang/IllegalStateException", Cond.initialized "java/lang/IllegalStateException", Cond.fieldLink RX5 19 "LadderClimb" "history" "LLadderClimb$History;", Cond.fieldLink RX5 10 "LadderClimb" "site" "LLadderClimb$Site;", Cond.fieldLink RX5 87 "LadderClimb$Rig" "people" "I", Cond.methodLink RX5 37 yX5_rigOf, Cond.instanceMethod yX5_rigOf, Cond.selects RX5 yX5_rigOf yX5_rigOf, Cond.initialized RX5, Cond.code yX5_rigOf cX5_rigOf 2 (some (.object "LadderClimb$Rig")), Cond.classLink RX5 280 "java/lang/IndexOutOfBoundsException", Cond.initialized "java/lang/IndexOutOfBoundsException", Cond.fieldLink RX5 285 "LadderClimb$Site" "rigs" "[LLadderClimb$Rig;", Cond.methodLink RX5 41 yX5_demandRange, Cond.static yX5_demandRange, Cond.code yX5_demandRange cX5_demandRange 3 none, Cond.classLink RX5 118 "java/lang/IllegalArgumentException", Cond.initialized "java/lang/IllegalArgumentException", Cond.methodLink RX5 72 yX2_isFull, Cond.instanceMethod yX2_isFull, Cond.selects RX2 yX2_isFull yX2_isFull, Cond.initialized RX2, Cond.code yX2_isFull cX2_isFull 1 (some .boolean), Cond.fieldLink RX2 33 "LadderClimb$Rig" "people" "I"]
def wsX5_on_r2 : List Cond := [Cond.methodLink RX5 45 yX0_save, Cond.instanceMethod yX0_save, Cond.selects RX0 yX0_save yX0_save, Cond.initialized RX0, Cond.code yX0_save cX0_save 2 none, Cond.fieldLink RX0 17 "LadderClimb$History" "next" "I", Cond.fieldLink RX0 11 "LadderClimb$History" "saved" "[LLadderClimb$Site;", Cond.fieldLink RX0 21 "LadderClimb$History" "size" "I", Cond.methodLink RX0 29 Lib.Math.min.name, Cond.static Lib.Math.min.name, Cond.initialized "java/lang/Math", Cond.code Lib.Math.min.name Lib.Math.min.code 2 (some .int), Cond.methodLink RX0 25 yX3_copyFrom, Cond.instanceMethod yX3_copyFrom, Cond.selects RX3 yX3_copyFrom yX3_copyFrom, Cond.initialized RX3, Cond.code yX3_copyFrom cX3_copyFrom 3 none, Cond.fieldLink RX3 11 "LadderClimb$Site" "rigs" "[LLadderClimb$Rig;", Cond.fieldLink RX3 17 "LadderClimb$Site" "fallen" "I", Cond.fieldLink RX3 21 "LadderClimb$Site" "climbed" "I", Cond.methodLink RX3 25 yX2_copyFrom, Cond.instanceMethod yX2_copyFrom, Cond.selects RX2 yX2_copyFrom yX2_copyFrom, Cond.code yX2_copyFrom cX2_copyFrom 3 none]
def wsX5_on_r3 : List Cond := [Cond.fieldLink RX2 9 "LadderClimb$Rig" "base" "I", Cond.fieldLink RX2 15 "LadderClimb$Rig" "height" "I", Cond.fieldLink RX2 18 "LadderClimb$Rig" "weight" "I", Cond.fieldLink RX2 21 "LadderClimb$Rig" "ground" "I", Cond.fieldLink RX2 24 "LadderClimb$Rig" "wall" "I", Cond.fieldLink RX2 27 "LadderClimb$Rig" "rope" "I", Cond.fieldLink RX2 30 "LadderClimb$Rig" "falls" "I", Cond.fieldLink RX2 36 "LadderClimb$Rig" "weights" "[I", Cond.fieldLink RX2 40 "LadderClimb$Rig" "steps" "[I", Cond.methodLink RX5 83 yX2_add, Cond.instanceMethod yX2_add, Cond.selects RX2 yX2_add yX2_add, Cond.code yX2_add cX2_add 2 none, Cond.methodLink RX5 59 yX3_fallsNow, Cond.instanceMethod yX3_fallsNow, Cond.selects RX3 yX3_fallsNow yX3_fallsNow, Cond.code yX3_fallsNow cX3_fallsNow 2 (some .boolean), Cond.fieldLink RX3 33 "LadderClimb$Rig" "people" "I", Cond.methodLink RX3 29 yX2_stands, Cond.instanceMethod yX2_stands, Cond.selects RX2 yX2_stands yX2_stands, Cond.code yX2_stands cX2_stands 1 (some .boolean), Cond.methodLink RX2 69 yX2_leastForce, Cond.instanceMethod yX2_leastForce]
def wsX5_on_r4 : List Cond := [Cond.selects RX2 yX2_leastForce yX2_leastForce, Cond.code yX2_leastForce cX2_leastForce 1 (some .int), Cond.methodLink RX2 75 Lib.Math.max.name, Cond.static Lib.Math.max.name, Cond.code Lib.Math.max.name Lib.Math.max.code 2 (some .int), Cond.methodLink RX2 82 yX2_leastByWall, Cond.instanceMethod yX2_leastByWall, Cond.selects RX2 yX2_leastByWall yX2_leastByWall, Cond.code yX2_leastByWall cX2_leastByWall 3 (some .int), Cond.methodLink RX2 63 yX2_wallPercents, Cond.instanceMethod yX2_wallPercents, Cond.selects RX2 yX2_wallPercents yX2_wallPercents, Cond.code yX2_wallPercents cX2_wallPercents 1 (some .int), Cond.methodLink RX2 47 yX2_moment, Cond.instanceMethod yX2_moment, Cond.selects RX2 yX2_moment yX2_moment, Cond.code yX2_moment cX2_moment 3 (some .int), Cond.methodLink RX2 88 yJ9_floorDiv_7cf53, Cond.static yJ9_floorDiv_7cf53, Cond.initialized RJ9, Cond.code yJ9_floorDiv_7cf53 cJ9_floorDiv_7cf53 3 (some .int), Cond.methodLink RX2 85 yX2_leastByGround, Cond.instanceMethod yX2_leastByGround, Cond.selects RX2 yX2_leastByGround yX2_leastByGround]
def wsX5_on_r5 : List Cond := [Cond.code yX2_leastByGround cX2_leastByGround 3 (some .int), Cond.methodLink RX2 66 yX2_groundPercents, Cond.instanceMethod yX2_groundPercents, Cond.selects RX2 yX2_groundPercents yX2_groundPercents, Cond.code yX2_groundPercents cX2_groundPercents 1 (some .int), Cond.methodLink RX2 55 yX2_load, Cond.instanceMethod yX2_load, Cond.selects RX2 yX2_load yX2_load, Cond.code yX2_load cX2_load 3 (some .int), Cond.methodLink RX2 72 yX2_greatestForce, Cond.instanceMethod yX2_greatestForce, Cond.selects RX2 yX2_greatestForce yX2_greatestForce, Cond.code yX2_greatestForce cX2_greatestForce 3 (some .int), Cond.methodLink RX3 39 yX3_fall, Cond.instanceMethod yX3_fall, Cond.selects RX3 yX3_fall yX3_fall, Cond.code yX3_fall cX3_fall 2 none, Cond.fieldLink RX3 36 "LadderClimb$Rig" "falls" "I", Cond.methodLink RX3 42 yX2_removeAll, Cond.instanceMethod yX2_removeAll, Cond.selects RX2 yX2_removeAll yX2_removeAll, Cond.code yX2_removeAll cX2_removeAll 2 none]
def wsX5_on : List Cond := .code yX5_on cX5_on 4 (some .int) :: ((wsX5_on_r1 ++ (wsX5_on_r2 ++ (wsX5_on_r3 ++ (wsX5_on_r4 ++ wsX5_on_r5)))) ++ wsX50 ++ wsX20 ++ wsX30 ++ wsX00 ++ (vx_atS RX5 80 "java/lang/IllegalStateException" ["java/lang/RuntimeException", "java/lang/Exception"]).filter goodWord ++ (vx_atS RX5 284 "java/lang/IndexOutOfBoundsException" ["java/lang/RuntimeException", "java/lang/Exception"]).filter goodWord ++ (vx_atS RX5 122 "java/lang/IllegalArgumentException" ["java/lang/RuntimeException", "java/lang/Exception"]).filter goodWord)
def wsX5_demandPerson : List Cond := .code yX5_demandPerson cX5_demandPerson 2 none :: ([.classLink RX5 280 "java/lang/IndexOutOfBoundsException", .initialized "java/lang/IndexOutOfBoundsException", .methodLink RX5 289 yX2_bears, .instanceMethod yX2_bears, .selects RX2 yX2_bears yX2_bears, .initialized RX2, .code yX2_bears cX2_bears 2 (some .boolean), .fieldLink RX2 33 "LadderClimb$Rig" "people" "I"] ++ wsX20 ++ (vx_atS RX5 284 "java/lang/IndexOutOfBoundsException" ["java/lang/RuntimeException", "java/lang/Exception"]).filter goodWord)
def wsX5_off_r1 : List Cond := [Cond.fieldLink RX5 19 "LadderClimb" "history" "LLadderClimb$History;", Cond.fieldLink RX5 10 "LadderClimb" "site" "LLadderClimb$Site;", Cond.fieldLink RX5 87 "LadderClimb$Rig" "people" "I", Cond.methodLink RX5 37 yX5_rigOf, Cond.instanceMethod yX5_rigOf, Cond.selects RX5 yX5_rigOf yX5_rigOf, Cond.initialized RX5, Cond.code yX5_rigOf cX5_rigOf 2 (some (.object "LadderClimb$Rig")), Cond.classLink RX5 280 "java/lang/IndexOutOfBoundsException", Cond.initialized "java/lang/IndexOutOfBoundsException", Cond.fieldLink RX5 285 "LadderClimb$Site" "rigs" "[LLadderClimb$Rig;", Cond.methodLink RX5 90 yX5_demandPerson, Cond.static yX5_demandPerson, Cond.code yX5_demandPerson cX5_demandPerson 2 none, Cond.methodLink RX5 289 yX2_bears, Cond.instanceMethod yX2_bears, Cond.selects RX2 yX2_bears yX2_bears, Cond.initialized RX2, Cond.code yX2_bears cX2_bears 2 (some .boolean), Cond.fieldLink RX2 33 "LadderClimb$Rig" "people" "I", Cond.methodLink RX5 45 yX0_save, Cond.instanceMethod yX0_save, Cond.selects RX0 yX0_save yX0_save, Cond.initialized RX0]
def wsX5_off_r2 : List Cond := [Cond.code yX0_save cX0_save 2 none, Cond.fieldLink RX0 17 "LadderClimb$History" "next" "I", Cond.fieldLink RX0 11 "LadderClimb$History" "saved" "[LLadderClimb$Site;", Cond.fieldLink RX0 21 "LadderClimb$History" "size" "I", Cond.methodLink RX0 29 Lib.Math.min.name, Cond.static Lib.Math.min.name, Cond.initialized "java/lang/Math", Cond.code Lib.Math.min.name Lib.Math.min.code 2 (some .int), Cond.methodLink RX0 25 yX3_copyFrom, Cond.instanceMethod yX3_copyFrom, Cond.selects RX3 yX3_copyFrom yX3_copyFrom, Cond.initialized RX3, Cond.code yX3_copyFrom cX3_copyFrom 3 none, Cond.fieldLink RX3 11 "LadderClimb$Site" "rigs" "[LLadderClimb$Rig;", Cond.fieldLink RX3 17 "LadderClimb$Site" "fallen" "I", Cond.fieldLink RX3 21 "LadderClimb$Site" "climbed" "I", Cond.methodLink RX3 25 yX2_copyFrom, Cond.instanceMethod yX2_copyFrom, Cond.selects RX2 yX2_copyFrom yX2_copyFrom, Cond.code yX2_copyFrom cX2_copyFrom 3 none, Cond.fieldLink RX2 9 "LadderClimb$Rig" "base" "I", Cond.fieldLink RX2 15 "LadderClimb$Rig" "height" "I", Cond.fieldLink RX2 18 "LadderClimb$Rig" "weight" "I", Cond.fieldLink RX2 21 "LadderClimb$Rig" "ground" "I"]
def wsX5_off_r3 : List Cond := [Cond.fieldLink RX2 24 "LadderClimb$Rig" "wall" "I", Cond.fieldLink RX2 27 "LadderClimb$Rig" "rope" "I", Cond.fieldLink RX2 30 "LadderClimb$Rig" "falls" "I", Cond.fieldLink RX2 36 "LadderClimb$Rig" "weights" "[I", Cond.fieldLink RX2 40 "LadderClimb$Rig" "steps" "[I", Cond.methodLink RX5 94 yX2_remove, Cond.instanceMethod yX2_remove, Cond.selects RX2 yX2_remove yX2_remove, Cond.code yX2_remove cX2_remove 3 none, Cond.methodLink RX2 43 yX2_bears, Cond.methodLink RX5 59 yX3_fallsNow, Cond.instanceMethod yX3_fallsNow, Cond.selects RX3 yX3_fallsNow yX3_fallsNow, Cond.code yX3_fallsNow cX3_fallsNow 2 (some .boolean), Cond.fieldLink RX3 33 "LadderClimb$Rig" "people" "I", Cond.methodLink RX3 29 yX2_stands, Cond.instanceMethod yX2_stands, Cond.selects RX2 yX2_stands yX2_stands, Cond.code yX2_stands cX2_stands 1 (some .boolean), Cond.methodLink RX2 69 yX2_leastForce, Cond.instanceMethod yX2_leastForce, Cond.selects RX2 yX2_leastForce yX2_leastForce, Cond.code yX2_leastForce cX2_leastForce 1 (some .int), Cond.methodLink RX2 75 Lib.Math.max.name]
def wsX5_off_r4 : List Cond := [Cond.static Lib.Math.max.name, Cond.code Lib.Math.max.name Lib.Math.max.code 2 (some .int), Cond.methodLink RX2 82 yX2_leastByWall, Cond.instanceMethod yX2_leastByWall, Cond.selects RX2 yX2_leastByWall yX2_leastByWall, Cond.code yX2_leastByWall cX2_leastByWall 3 (some .int), Cond.methodLink RX2 63 yX2_wallPercents, Cond.instanceMethod yX2_wallPercents, Cond.selects RX2 yX2_wallPercents yX2_wallPercents, Cond.code yX2_wallPercents cX2_wallPercents 1 (some .int), Cond.methodLink RX2 47 yX2_moment, Cond.instanceMethod yX2_moment, Cond.selects RX2 yX2_moment yX2_moment, Cond.code yX2_moment cX2_moment 3 (some .int), Cond.methodLink RX2 88 yJ9_floorDiv_7cf53, Cond.static yJ9_floorDiv_7cf53, Cond.initialized RJ9, Cond.code yJ9_floorDiv_7cf53 cJ9_floorDiv_7cf53 3 (some .int), Cond.methodLink RX2 85 yX2_leastByGround, Cond.instanceMethod yX2_leastByGround, Cond.selects RX2 yX2_leastByGround yX2_leastByGround, Cond.code yX2_leastByGround cX2_leastByGround 3 (some .int), Cond.methodLink RX2 66 yX2_groundPercents, Cond.instanceMethod yX2_groundPercents]
def wsX5_off_r5 : List Cond := [Cond.selects RX2 yX2_groundPercents yX2_groundPercents, Cond.code yX2_groundPercents cX2_groundPercents 1 (some .int), Cond.methodLink RX2 55 yX2_load, Cond.instanceMethod yX2_load, Cond.selects RX2 yX2_load yX2_load, Cond.code yX2_load cX2_load 3 (some .int), Cond.methodLink RX2 72 yX2_greatestForce, Cond.instanceMethod yX2_greatestForce, Cond.selects RX2 yX2_greatestForce yX2_greatestForce, Cond.code yX2_greatestForce cX2_greatestForce 3 (some .int), Cond.methodLink RX3 39 yX3_fall, Cond.instanceMethod yX3_fall, Cond.selects RX3 yX3_fall yX3_fall, Cond.code yX3_fall cX3_fall 2 none, Cond.fieldLink RX3 36 "LadderClimb$Rig" "falls" "I", Cond.methodLink RX3 42 yX2_removeAll, Cond.instanceMethod yX2_removeAll, Cond.selects RX2 yX2_removeAll yX2_removeAll, Cond.code yX2_removeAll cX2_removeAll 2 none]
def wsX5_off : List Cond := .code yX5_off cX5_off 4 (some .int) :: ((wsX5_off_r1 ++ (wsX5_off_r2 ++ (wsX5_off_r3 ++ (wsX5_off_r4 ++ wsX5_off_r5)))) ++ wsX50 ++ wsX20 ++ wsX30 ++ wsX00 ++ (vx_atS RX5 284 "java/lang/IndexOutOfBoundsException" ["java/lang/RuntimeException", "java/lang/Exception"]).filter goodWord)
def wsX5_climb_r1 : List Cond := [Cond.fieldLink RX5 19 "LadderClimb" "history" "LLadderClimb$History;", Cond.fieldLink RX5 10 "LadderClimb" "site" "LLadderClimb$Site;", Cond.methodLink RX5 37 yX5_rigOf, Cond.instanceMethod yX5_rigOf, Cond.selects RX5 yX5_rigOf yX5_rigOf, Cond.initialized RX5, Cond.code yX5_rigOf cX5_rigOf 2 (some (.object "LadderClimb$Rig")), Cond.classLink RX5 280 "java/lang/IndexOutOfBoundsException", Cond.initialized "java/lang/IndexOutOfBoundsException", Cond.fieldLink RX5 285 "LadderClimb$Site" "rigs" "[LLadderClimb$Rig;", Cond.methodLink RX5 90 yX5_demandPerson, Cond.static yX5_demandPerson, Cond.code yX5_demandPerson cX5_demandPerson 2 none, Cond.methodLink RX5 289 yX2_bears, Cond.instanceMethod yX2_bears, Cond.selects RX2 yX2_bears yX2_bears, Cond.initialized RX2, Cond.code yX2_bears cX2_bears 2 (some .boolean), Cond.fieldLink RX2 33 "LadderClimb$Rig" "people" "I", Cond.methodLink RX5 41 yX5_demandRange, Cond.static yX5_demandRange, Cond.code yX5_demandRange cX5_demandRange 3 none, Cond.classLink RX5 118 "java/lang/IllegalArgumentException", Cond.initialized "java/lang/IllegalArgumentException"]
def wsX5_climb_r2 : List Cond := [Cond.methodLink RX5 45 yX0_save, Cond.instanceMethod yX0_save, Cond.selects RX0 yX0_save yX0_save, Cond.initialized RX0, Cond.code yX0_save cX0_save 2 none, Cond.fieldLink RX0 17 "LadderClimb$History" "next" "I", Cond.fieldLink RX0 11 "LadderClimb$History" "saved" "[LLadderClimb$Site;", Cond.fieldLink RX0 21 "LadderClimb$History" "size" "I", Cond.methodLink RX0 29 Lib.Math.min.name, Cond.static Lib.Math.min.name, Cond.initialized "java/lang/Math", Cond.code Lib.Math.min.name Lib.Math.min.code 2 (some .int), Cond.methodLink RX0 25 yX3_copyFrom, Cond.instanceMethod yX3_copyFrom, Cond.selects RX3 yX3_copyFrom yX3_copyFrom, Cond.initialized RX3, Cond.code yX3_copyFrom cX3_copyFrom 3 none, Cond.fieldLink RX3 11 "LadderClimb$Site" "rigs" "[LLadderClimb$Rig;", Cond.fieldLink RX3 17 "LadderClimb$Site" "fallen" "I", Cond.fieldLink RX3 21 "LadderClimb$Site" "climbed" "I", Cond.methodLink RX3 25 yX2_copyFrom, Cond.instanceMethod yX2_copyFrom, Cond.selects RX2 yX2_copyFrom yX2_copyFrom, Cond.code yX2_copyFrom cX2_copyFrom 3 none]
def wsX5_climb_r3 : List Cond := [Cond.fieldLink RX2 9 "LadderClimb$Rig" "base" "I", Cond.fieldLink RX2 15 "LadderClimb$Rig" "height" "I", Cond.fieldLink RX2 18 "LadderClimb$Rig" "weight" "I", Cond.fieldLink RX2 21 "LadderClimb$Rig" "ground" "I", Cond.fieldLink RX2 24 "LadderClimb$Rig" "wall" "I", Cond.fieldLink RX2 27 "LadderClimb$Rig" "rope" "I", Cond.fieldLink RX2 30 "LadderClimb$Rig" "falls" "I", Cond.fieldLink RX2 36 "LadderClimb$Rig" "weights" "[I", Cond.fieldLink RX2 40 "LadderClimb$Rig" "steps" "[I", Cond.methodLink RX5 97 yX3_walk, Cond.instanceMethod yX3_walk, Cond.selects RX3 yX3_walk yX3_walk, Cond.code yX3_walk cX3_walk 8 (some .int), Cond.methodLink RX3 49 Lib.Math.abs.name, Cond.static Lib.Math.abs.name, Cond.code Lib.Math.abs.name Lib.Math.abs.code 1 (some .int), Cond.methodLink RX3 45 yX2_stepOf, Cond.instanceMethod yX2_stepOf, Cond.selects RX2 yX2_stepOf yX2_stepOf, Cond.code yX2_stepOf cX2_stepOf 2 (some .int), Cond.methodLink RX2 43 yX2_bears, Cond.methodLink RX3 54 yX2_setStep, Cond.instanceMethod yX2_setStep, Cond.selects RX2 yX2_setStep yX2_setStep]
def wsX5_climb_r4 : List Cond := [Cond.code yX2_setStep cX2_setStep 3 none, Cond.methodLink RX3 29 yX2_stands, Cond.instanceMethod yX2_stands, Cond.selects RX2 yX2_stands yX2_stands, Cond.code yX2_stands cX2_stands 1 (some .boolean), Cond.methodLink RX2 69 yX2_leastForce, Cond.instanceMethod yX2_leastForce, Cond.selects RX2 yX2_leastForce yX2_leastForce, Cond.code yX2_leastForce cX2_leastForce 1 (some .int), Cond.methodLink RX2 75 Lib.Math.max.name, Cond.static Lib.Math.max.name, Cond.code Lib.Math.max.name Lib.Math.max.code 2 (some .int), Cond.methodLink RX2 82 yX2_leastByWall, Cond.instanceMethod yX2_leastByWall, Cond.selects RX2 yX2_leastByWall yX2_leastByWall, Cond.code yX2_leastByWall cX2_leastByWall 3 (some .int), Cond.methodLink RX2 63 yX2_wallPercents, Cond.instanceMethod yX2_wallPercents, Cond.selects RX2 yX2_wallPercents yX2_wallPercents, Cond.code yX2_wallPercents cX2_wallPercents 1 (some .int), Cond.methodLink RX2 47 yX2_moment, Cond.instanceMethod yX2_moment, Cond.selects RX2 yX2_moment yX2_moment, Cond.code yX2_moment cX2_moment 3 (some .int)]
def wsX5_climb_r5 : List Cond := [Cond.methodLink RX2 88 yJ9_floorDiv_7cf53, Cond.static yJ9_floorDiv_7cf53, Cond.initialized RJ9, Cond.code yJ9_floorDiv_7cf53 cJ9_floorDiv_7cf53 3 (some .int), Cond.methodLink RX2 85 yX2_leastByGround, Cond.instanceMethod yX2_leastByGround, Cond.selects RX2 yX2_leastByGround yX2_leastByGround, Cond.code yX2_leastByGround cX2_leastByGround 3 (some .int), Cond.methodLink RX2 66 yX2_groundPercents, Cond.instanceMethod yX2_groundPercents, Cond.selects RX2 yX2_groundPercents yX2_groundPercents, Cond.code yX2_groundPercents cX2_groundPercents 1 (some .int), Cond.methodLink RX2 55 yX2_load, Cond.instanceMethod yX2_load, Cond.selects RX2 yX2_load yX2_load, Cond.code yX2_load cX2_load 3 (some .int), Cond.methodLink RX2 72 yX2_greatestForce, Cond.instanceMethod yX2_greatestForce, Cond.selects RX2 yX2_greatestForce yX2_greatestForce, Cond.code yX2_greatestForce cX2_greatestForce 3 (some .int), Cond.methodLink RX3 39 yX3_fall, Cond.instanceMethod yX3_fall, Cond.selects RX3 yX3_fall yX3_fall, Cond.code yX3_fall cX3_fall 2 none]
def wsX5_climb_r6 : List Cond := [Cond.fieldLink RX3 33 "LadderClimb$Rig" "people" "I", Cond.fieldLink RX3 36 "LadderClimb$Rig" "falls" "I", Cond.methodLink RX3 42 yX2_removeAll, Cond.instanceMethod yX2_removeAll, Cond.selects RX2 yX2_removeAll yX2_removeAll, Cond.code yX2_removeAll cX2_removeAll 2 none]
def wsX5_climb : List Cond := .code yX5_climb cX5_climb 5 (some .int) :: ((wsX5_climb_r1 ++ (wsX5_climb_r2 ++ (wsX5_climb_r3 ++ (wsX5_climb_r4 ++ (wsX5_climb_r5 ++ wsX5_climb_r6))))) ++ wsX50 ++ wsX30 ++ wsX20 ++ wsX00 ++ (vx_atS RX5 284 "java/lang/IndexOutOfBoundsException" ["java/lang/RuntimeException", "java/lang/Exception"]).filter goodWord ++ (vx_atS RX5 122 "java/lang/IllegalArgumentException" ["java/lang/RuntimeException", "java/lang/Exception"]).filter goodWord)
def wsX5_undo_r1 : List Cond := [Cond.classLink RX5 76 "java/lang/IllegalStateException", Cond.initialized "java/lang/IllegalStateException", Cond.fieldLink RX5 19 "LadderClimb" "history" "LLadderClimb$History;", Cond.fieldLink RX5 137 "LadderClimb$History" "size" "I", Cond.fieldLink RX5 10 "LadderClimb" "site" "LLadderClimb$Site;", Cond.methodLink RX5 142 yX0_restoreTo, Cond.instanceMethod yX0_restoreTo, Cond.selects RX0 yX0_restoreTo yX0_restoreTo, Cond.initialized RX0, Cond.code yX0_restoreTo cX0_restoreTo 3 none, Cond.fieldLink RX0 17 "LadderClimb$History" "next" "I", Cond.fieldLink RX0 21 "LadderClimb$History" "size" "I", Cond.fieldLink RX0 11 "LadderClimb$History" "saved" "[LLadderClimb$Site;", Cond.methodLink RX0 25 yX3_copyFrom, Cond.instanceMethod yX3_copyFrom, Cond.selects RX3 yX3_copyFrom yX3_copyFrom, Cond.initialized RX3, Cond.code yX3_copyFrom cX3_copyFrom 3 none, Cond.fieldLink RX3 11 "LadderClimb$Site" "rigs" "[LLadderClimb$Rig;", Cond.fieldLink RX3 17 "LadderClimb$Site" "fallen" "I", Cond.fieldLink RX3 21 "LadderClimb$Site" "climbed" "I", Cond.methodLink RX3 25 yX2_copyFrom, Cond.instanceMethod yX2_copyFrom, Cond.selects RX2 yX2_copyFrom yX2_copyFrom]
def wsX5_undo_r2 : List Cond := [Cond.initialized RX2, Cond.code yX2_copyFrom cX2_copyFrom 3 none, Cond.fieldLink RX2 9 "LadderClimb$Rig" "base" "I", Cond.fieldLink RX2 15 "LadderClimb$Rig" "height" "I", Cond.fieldLink RX2 18 "LadderClimb$Rig" "weight" "I", Cond.fieldLink RX2 21 "LadderClimb$Rig" "ground" "I", Cond.fieldLink RX2 24 "LadderClimb$Rig" "wall" "I", Cond.fieldLink RX2 27 "LadderClimb$Rig" "rope" "I", Cond.fieldLink RX2 30 "LadderClimb$Rig" "falls" "I", Cond.fieldLink RX2 33 "LadderClimb$Rig" "people" "I", Cond.fieldLink RX2 36 "LadderClimb$Rig" "weights" "[I", Cond.fieldLink RX2 40 "LadderClimb$Rig" "steps" "[I"]
def wsX5_undo : List Cond := .code yX5_undo cX5_undo 1 (some .int) :: ((wsX5_undo_r1 ++ wsX5_undo_r2) ++ wsX50 ++ wsX00 ++ wsX30 ++ wsX20 ++ (vx_atS RX5 80 "java/lang/IllegalStateException" ["java/lang/RuntimeException", "java/lang/Exception"]).filter goodWord)
def wsX5_ladder_r1 : List Cond := [Cond.classLink RX5 118 "java/lang/IllegalArgumentException", Cond.initialized "java/lang/IllegalArgumentException", Cond.fieldLink RX5 49 "LadderClimb$Rig" "base" "I", Cond.fieldLink RX5 53 "LadderClimb$Rig" "height" "I", Cond.fieldLink RX5 56 "LadderClimb$Rig" "weight" "I", Cond.fieldLink RX5 63 "LadderClimb$Rig" "ground" "I", Cond.fieldLink RX5 66 "LadderClimb$Rig" "wall" "I", Cond.fieldLink RX5 69 "LadderClimb$Rig" "rope" "I", Cond.fieldLink RX5 87 "LadderClimb$Rig" "people" "I", Cond.fieldLink RX5 151 "LadderClimb$Rig" "falls" "I", Cond.methodLink RX5 37 yX5_rigOf, Cond.instanceMethod yX5_rigOf, Cond.selects RX5 yX5_rigOf yX5_rigOf, Cond.initialized RX5, Cond.code yX5_rigOf cX5_rigOf 2 (some (.object "LadderClimb$Rig")), Cond.classLink RX5 280 "java/lang/IndexOutOfBoundsException", Cond.initialized "java/lang/IndexOutOfBoundsException", Cond.fieldLink RX5 10 "LadderClimb" "site" "LLadderClimb$Site;", Cond.fieldLink RX5 285 "LadderClimb$Site" "rigs" "[LLadderClimb$Rig;", Cond.methodLink RX5 145 yX2_load, Cond.instanceMethod yX2_load, Cond.selects RX2 yX2_load yX2_load, Cond.initialized RX2, Cond.code yX2_load cX2_load 3 (some .int)]
def wsX5_ladder_r2 : List Cond := [Cond.fieldLink RX2 18 "LadderClimb$Rig" "weight" "I", Cond.fieldLink RX2 36 "LadderClimb$Rig" "weights" "[I", Cond.methodLink RX5 148 yX2_moment, Cond.instanceMethod yX2_moment, Cond.selects RX2 yX2_moment yX2_moment, Cond.code yX2_moment cX2_moment 3 (some .int), Cond.fieldLink RX2 40 "LadderClimb$Rig" "steps" "[I", Cond.fieldLink RX2 9 "LadderClimb$Rig" "base" "I", Cond.methodLink RX5 154 yX2_stands, Cond.instanceMethod yX2_stands, Cond.selects RX2 yX2_stands yX2_stands, Cond.code yX2_stands cX2_stands 1 (some .boolean), Cond.methodLink RX2 69 yX2_leastForce, Cond.instanceMethod yX2_leastForce, Cond.selects RX2 yX2_leastForce yX2_leastForce, Cond.code yX2_leastForce cX2_leastForce 1 (some .int), Cond.methodLink RX2 75 Lib.Math.max.name, Cond.static Lib.Math.max.name, Cond.initialized "java/lang/Math", Cond.code Lib.Math.max.name Lib.Math.max.code 2 (some .int), Cond.methodLink RX2 82 yX2_leastByWall, Cond.instanceMethod yX2_leastByWall, Cond.selects RX2 yX2_leastByWall yX2_leastByWall, Cond.code yX2_leastByWall cX2_leastByWall 3 (some .int)]
def wsX5_ladder_r3 : List Cond := [Cond.fieldLink RX2 24 "LadderClimb$Rig" "wall" "I", Cond.fieldLink RX2 15 "LadderClimb$Rig" "height" "I", Cond.methodLink RX2 63 yX2_wallPercents, Cond.instanceMethod yX2_wallPercents, Cond.selects RX2 yX2_wallPercents yX2_wallPercents, Cond.code yX2_wallPercents cX2_wallPercents 1 (some .int), Cond.methodLink RX2 47 yX2_moment, Cond.methodLink RX2 88 yJ9_floorDiv_7cf53, Cond.static yJ9_floorDiv_7cf53, Cond.initialized RJ9, Cond.code yJ9_floorDiv_7cf53 cJ9_floorDiv_7cf53 3 (some .int), Cond.methodLink RX2 85 yX2_leastByGround, Cond.instanceMethod yX2_leastByGround, Cond.selects RX2 yX2_leastByGround yX2_leastByGround, Cond.code yX2_leastByGround cX2_leastByGround 3 (some .int), Cond.fieldLink RX2 27 "LadderClimb$Rig" "rope" "I", Cond.methodLink RX2 66 yX2_groundPercents, Cond.instanceMethod yX2_groundPercents, Cond.selects RX2 yX2_groundPercents yX2_groundPercents, Cond.code yX2_groundPercents cX2_groundPercents 1 (some .int), Cond.fieldLink RX2 21 "LadderClimb$Rig" "ground" "I", Cond.methodLink RX2 55 yX2_load, Cond.methodLink RX2 72 yX2_greatestForce, Cond.instanceMethod yX2_greatestForce]
def wsX5_ladder_r4 : List Cond := [Cond.selects RX2 yX2_greatestForce yX2_greatestForce, Cond.code yX2_greatestForce cX2_greatestForce 3 (some .int)]
def wsX5_ladder : List Cond := .code yX5_ladder cX5_ladder 4 (some .int) :: ((wsX5_ladder_r1 ++ (wsX5_ladder_r2 ++ (wsX5_ladder_r3 ++ wsX5_ladder_r4))) ++ wsX20 ++ wsX50 ++ wsX30 ++ (vx_atS RX5 122 "java/lang/IllegalArgumentException" ["java/lang/RuntimeException", "java/lang/Exception"]).filter goodWord ++ (vx_atS RX5 284 "java/lang/IndexOutOfBoundsException" ["java/lang/RuntimeException", "java/lang/Exception"]).filter goodWord)
def wsX5_person_r1 : List Cond := [Cond.classLink RX5 118 "java/lang/IllegalArgumentException", Cond.initialized "java/lang/IllegalArgumentException", Cond.methodLink RX5 37 yX5_rigOf, Cond.instanceMethod yX5_rigOf, Cond.selects RX5 yX5_rigOf yX5_rigOf, Cond.initialized RX5, Cond.code yX5_rigOf cX5_rigOf 2 (some (.object "LadderClimb$Rig")), Cond.classLink RX5 280 "java/lang/IndexOutOfBoundsException", Cond.initialized "java/lang/IndexOutOfBoundsException", Cond.fieldLink RX5 10 "LadderClimb" "site" "LLadderClimb$Site;", Cond.fieldLink RX5 285 "LadderClimb$Site" "rigs" "[LLadderClimb$Rig;", Cond.methodLink RX5 90 yX5_demandPerson, Cond.static yX5_demandPerson, Cond.code yX5_demandPerson cX5_demandPerson 2 none, Cond.methodLink RX5 289 yX2_bears, Cond.instanceMethod yX2_bears, Cond.selects RX2 yX2_bears yX2_bears, Cond.initialized RX2, Cond.code yX2_bears cX2_bears 2 (some .boolean), Cond.fieldLink RX2 33 "LadderClimb$Rig" "people" "I", Cond.methodLink RX5 159 yX2_weightOf, Cond.instanceMethod yX2_weightOf, Cond.selects RX2 yX2_weightOf yX2_weightOf, Cond.code yX2_weightOf cX2_weightOf 2 (some .int)]
def wsX5_person_r2 : List Cond := [Cond.fieldLink RX2 36 "LadderClimb$Rig" "weights" "[I", Cond.methodLink RX2 43 yX2_bears, Cond.methodLink RX5 163 yX2_stepOf, Cond.instanceMethod yX2_stepOf, Cond.selects RX2 yX2_stepOf yX2_stepOf, Cond.code yX2_stepOf cX2_stepOf 2 (some .int), Cond.fieldLink RX2 40 "LadderClimb$Rig" "steps" "[I"]
def wsX5_person : List Cond := .code yX5_person cX5_person 5 (some .int) :: ((wsX5_person_r1 ++ wsX5_person_r2) ++ wsX50 ++ wsX30 ++ wsX20 ++ (vx_atS RX5 122 "java/lang/IllegalArgumentException" ["java/lang/RuntimeException", "java/lang/Exception"]).filter goodWord ++ (vx_atS RX5 284 "java/lang/IndexOutOfBoundsException" ["java/lang/RuntimeException", "java/lang/Exception"]).filter goodWord)
def wsX5_force_r1 : List Cond := [Cond.methodLink RX5 37 yX5_rigOf, Cond.instanceMethod yX5_rigOf, Cond.selects RX5 yX5_rigOf yX5_rigOf, Cond.initialized RX5, Cond.code yX5_rigOf cX5_rigOf 2 (some (.object "LadderClimb$Rig")), Cond.classLink RX5 280 "java/lang/IndexOutOfBoundsException", Cond.initialized "java/lang/IndexOutOfBoundsException", Cond.fieldLink RX5 10 "LadderClimb" "site" "LLadderClimb$Site;", Cond.fieldLink RX5 285 "LadderClimb$Site" "rigs" "[LLadderClimb$Rig;", Cond.methodLink RX5 41 yX5_demandRange, Cond.static yX5_demandRange, Cond.code yX5_demandRange cX5_demandRange 3 none, Cond.classLink RX5 118 "java/lang/IllegalArgumentException", Cond.initialized "java/lang/IllegalArgumentException", Cond.methodLink RX5 168 yX2_forces, Cond.instanceMethod yX2_forces, Cond.selects RX2 yX2_forces yX2_forces, Cond.initialized RX2, Cond.code yX2_forces cX2_forces 1 (some .int), Cond.methodLink RX2 75 Lib.Math.max.name, Cond.static Lib.Math.max.name, Cond.initialized "java/lang/Math", Cond.code Lib.Math.max.name Lib.Math.max.code 2 (some .int), Cond.methodLink RX2 72 yX2_greatestForce]
def wsX5_force_r2 : List Cond := [Cond.instanceMethod yX2_greatestForce, Cond.selects RX2 yX2_greatestForce yX2_greatestForce, Cond.code yX2_greatestForce cX2_greatestForce 3 (some .int), Cond.fieldLink RX2 15 "LadderClimb$Rig" "height" "I", Cond.fieldLink RX2 9 "LadderClimb$Rig" "base" "I", Cond.methodLink RX2 63 yX2_wallPercents, Cond.instanceMethod yX2_wallPercents, Cond.selects RX2 yX2_wallPercents yX2_wallPercents, Cond.code yX2_wallPercents cX2_wallPercents 1 (some .int), Cond.fieldLink RX2 24 "LadderClimb$Rig" "wall" "I", Cond.methodLink RX2 47 yX2_moment, Cond.instanceMethod yX2_moment, Cond.selects RX2 yX2_moment yX2_moment, Cond.code yX2_moment cX2_moment 3 (some .int), Cond.fieldLink RX2 18 "LadderClimb$Rig" "weight" "I", Cond.fieldLink RX2 40 "LadderClimb$Rig" "steps" "[I", Cond.fieldLink RX2 36 "LadderClimb$Rig" "weights" "[I", Cond.methodLink RX2 88 yJ9_floorDiv_7cf53, Cond.static yJ9_floorDiv_7cf53, Cond.initialized RJ9, Cond.code yJ9_floorDiv_7cf53 cJ9_floorDiv_7cf53 3 (some .int), Cond.methodLink RX2 69 yX2_leastForce, Cond.instanceMethod yX2_leastForce, Cond.selects RX2 yX2_leastForce yX2_leastForce]
def wsX5_force_r3 : List Cond := [Cond.code yX2_leastForce cX2_leastForce 1 (some .int), Cond.methodLink RX2 82 yX2_leastByWall, Cond.instanceMethod yX2_leastByWall, Cond.selects RX2 yX2_leastByWall yX2_leastByWall, Cond.code yX2_leastByWall cX2_leastByWall 3 (some .int), Cond.methodLink RX2 85 yX2_leastByGround, Cond.instanceMethod yX2_leastByGround, Cond.selects RX2 yX2_leastByGround yX2_leastByGround, Cond.code yX2_leastByGround cX2_leastByGround 3 (some .int), Cond.fieldLink RX2 27 "LadderClimb$Rig" "rope" "I", Cond.methodLink RX2 66 yX2_groundPercents, Cond.instanceMethod yX2_groundPercents, Cond.selects RX2 yX2_groundPercents yX2_groundPercents, Cond.code yX2_groundPercents cX2_groundPercents 1 (some .int), Cond.fieldLink RX2 21 "LadderClimb$Rig" "ground" "I", Cond.methodLink RX2 55 yX2_load, Cond.instanceMethod yX2_load, Cond.selects RX2 yX2_load yX2_load, Cond.code yX2_load cX2_load 3 (some .int), Cond.methodLink RX5 154 yX2_stands, Cond.instanceMethod yX2_stands, Cond.selects RX2 yX2_stands yX2_stands, Cond.code yX2_stands cX2_stands 1 (some .boolean), Cond.methodLink RX5 171 yX2_leastForce]
def wsX5_force_r4 : List Cond := [Cond.methodLink RX5 174 yX2_greatestForce, Cond.methodLink RX5 177 yX2_nearestForce, Cond.instanceMethod yX2_nearestForce, Cond.selects RX2 yX2_nearestForce yX2_nearestForce, Cond.code yX2_nearestForce cX2_nearestForce 1 (some .int), Cond.methodLink RX2 79 Lib.Math.min.name, Cond.static Lib.Math.min.name, Cond.code Lib.Math.min.name Lib.Math.min.code 2 (some .int), Cond.methodLink RX5 180 yX2_push, Cond.instanceMethod yX2_push, Cond.selects RX2 yX2_push yX2_push, Cond.code yX2_push cX2_push 2 (some .int), Cond.methodLink RX5 145 yX2_load]
def wsX5_force : List Cond := .code yX5_force cX5_force 4 (some .int) :: ((wsX5_force_r1 ++ (wsX5_force_r2 ++ (wsX5_force_r3 ++ wsX5_force_r4))) ++ wsX50 ++ wsX30 ++ wsX20 ++ (vx_atS RX5 284 "java/lang/IndexOutOfBoundsException" ["java/lang/RuntimeException", "java/lang/Exception"]).filter goodWord ++ (vx_atS RX5 122 "java/lang/IllegalArgumentException" ["java/lang/RuntimeException", "java/lang/Exception"]).filter goodWord)
def wsX5_held_r1 : List Cond := [Cond.methodLink RX5 37 yX5_rigOf, Cond.instanceMethod yX5_rigOf, Cond.selects RX5 yX5_rigOf yX5_rigOf, Cond.initialized RX5, Cond.code yX5_rigOf cX5_rigOf 2 (some (.object "LadderClimb$Rig")), Cond.classLink RX5 280 "java/lang/IndexOutOfBoundsException", Cond.initialized "java/lang/IndexOutOfBoundsException", Cond.fieldLink RX5 10 "LadderClimb" "site" "LLadderClimb$Site;", Cond.fieldLink RX5 285 "LadderClimb$Site" "rigs" "[LLadderClimb$Rig;", Cond.methodLink RX5 41 yX5_demandRange, Cond.static yX5_demandRange, Cond.code yX5_demandRange cX5_demandRange 3 none, Cond.classLink RX5 118 "java/lang/IllegalArgumentException", Cond.initialized "java/lang/IllegalArgumentException", Cond.methodLink RX5 183 yX2_whatGivesWay, Cond.instanceMethod yX2_whatGivesWay, Cond.selects RX2 yX2_whatGivesWay yX2_whatGivesWay, Cond.initialized RX2, Cond.code yX2_whatGivesWay cX2_whatGivesWay 5 (some .int), Cond.fieldLink RX2 15 "LadderClimb$Rig" "height" "I", Cond.methodLink RX2 58 Lib.Math.abs.name, Cond.static Lib.Math.abs.name, Cond.initialized "java/lang/Math", Cond.code Lib.Math.abs.name Lib.Math.abs.code 1 (some .int)]
def wsX5_held_r2 : List Cond := [Cond.fieldLink RX2 24 "LadderClimb$Rig" "wall" "I", Cond.fieldLink RX2 27 "LadderClimb$Rig" "rope" "I", Cond.methodLink RX2 51 yX2_push, Cond.instanceMethod yX2_push, Cond.selects RX2 yX2_push yX2_push, Cond.code yX2_push cX2_push 2 (some .int), Cond.fieldLink RX2 9 "LadderClimb$Rig" "base" "I", Cond.methodLink RX2 47 yX2_moment, Cond.instanceMethod yX2_moment, Cond.selects RX2 yX2_moment yX2_moment, Cond.code yX2_moment cX2_moment 3 (some .int), Cond.fieldLink RX2 18 "LadderClimb$Rig" "weight" "I", Cond.fieldLink RX2 40 "LadderClimb$Rig" "steps" "[I", Cond.fieldLink RX2 36 "LadderClimb$Rig" "weights" "[I", Cond.methodLink RX2 55 yX2_load, Cond.instanceMethod yX2_load, Cond.selects RX2 yX2_load yX2_load, Cond.code yX2_load cX2_load 3 (some .int), Cond.methodLink RX2 63 yX2_wallPercents, Cond.instanceMethod yX2_wallPercents, Cond.selects RX2 yX2_wallPercents yX2_wallPercents, Cond.code yX2_wallPercents cX2_wallPercents 1 (some .int), Cond.methodLink RX2 66 yX2_groundPercents, Cond.instanceMethod yX2_groundPercents]
def wsX5_held_r3 : List Cond := [Cond.selects RX2 yX2_groundPercents yX2_groundPercents, Cond.code yX2_groundPercents cX2_groundPercents 1 (some .int), Cond.fieldLink RX2 21 "LadderClimb$Rig" "ground" "I"]
def wsX5_held : List Cond := .code yX5_held cX5_held 4 (some .int) :: ((wsX5_held_r1 ++ (wsX5_held_r2 ++ wsX5_held_r3)) ++ wsX50 ++ wsX30 ++ wsX20 ++ (vx_atS RX5 284 "java/lang/IndexOutOfBoundsException" ["java/lang/RuntimeException", "java/lang/Exception"]).filter goodWord ++ (vx_atS RX5 122 "java/lang/IllegalArgumentException" ["java/lang/RuntimeException", "java/lang/Exception"]).filter goodWord)
def wsX5_count_r1 : List Cond := [Cond.classLink RX5 118 "java/lang/IllegalArgumentException", Cond.initialized "java/lang/IllegalArgumentException", Cond.fieldLink RX5 10 "LadderClimb" "site" "LLadderClimb$Site;", Cond.fieldLink RX5 193 "LadderClimb$Site" "fallen" "I", Cond.fieldLink RX5 196 "LadderClimb$Site" "climbed" "I", Cond.fieldLink RX5 19 "LadderClimb" "history" "LLadderClimb$History;", Cond.fieldLink RX5 137 "LadderClimb$History" "size" "I", Cond.methodLink RX5 186 yX3_standing, Cond.instanceMethod yX3_standing, Cond.selects RX3 yX3_standing yX3_standing, Cond.initialized RX3, Cond.code yX3_standing cX3_standing 3 (some .int), Cond.fieldLink RX3 11 "LadderClimb$Site" "rigs" "[LLadderClimb$Rig;", Cond.methodLink RX3 29 yX2_stands, Cond.instanceMethod yX2_stands, Cond.selects RX2 yX2_stands yX2_stands, Cond.initialized RX2, Cond.code yX2_stands cX2_stands 1 (some .boolean), Cond.methodLink RX2 69 yX2_leastForce, Cond.instanceMethod yX2_leastForce, Cond.selects RX2 yX2_leastForce yX2_leastForce, Cond.code yX2_leastForce cX2_leastForce 1 (some .int), Cond.methodLink RX2 75 Lib.Math.max.name, Cond.static Lib.Math.max.name]
def wsX5_count_r2 : List Cond := [Cond.initialized "java/lang/Math", Cond.code Lib.Math.max.name Lib.Math.max.code 2 (some .int), Cond.methodLink RX2 82 yX2_leastByWall, Cond.instanceMethod yX2_leastByWall, Cond.selects RX2 yX2_leastByWall yX2_leastByWall, Cond.code yX2_leastByWall cX2_leastByWall 3 (some .int), Cond.fieldLink RX2 24 "LadderClimb$Rig" "wall" "I", Cond.fieldLink RX2 15 "LadderClimb$Rig" "height" "I", Cond.fieldLink RX2 9 "LadderClimb$Rig" "base" "I", Cond.methodLink RX2 63 yX2_wallPercents, Cond.instanceMethod yX2_wallPercents, Cond.selects RX2 yX2_wallPercents yX2_wallPercents, Cond.code yX2_wallPercents cX2_wallPercents 1 (some .int), Cond.methodLink RX2 47 yX2_moment, Cond.instanceMethod yX2_moment, Cond.selects RX2 yX2_moment yX2_moment, Cond.code yX2_moment cX2_moment 3 (some .int), Cond.fieldLink RX2 18 "LadderClimb$Rig" "weight" "I", Cond.fieldLink RX2 40 "LadderClimb$Rig" "steps" "[I", Cond.fieldLink RX2 36 "LadderClimb$Rig" "weights" "[I", Cond.methodLink RX2 88 yJ9_floorDiv_7cf53, Cond.static yJ9_floorDiv_7cf53, Cond.initialized RJ9, Cond.code yJ9_floorDiv_7cf53 cJ9_floorDiv_7cf53 3 (some .int)]
def wsX5_count_r3 : List Cond := [Cond.methodLink RX2 85 yX2_leastByGround, Cond.instanceMethod yX2_leastByGround, Cond.selects RX2 yX2_leastByGround yX2_leastByGround, Cond.code yX2_leastByGround cX2_leastByGround 3 (some .int), Cond.fieldLink RX2 27 "LadderClimb$Rig" "rope" "I", Cond.methodLink RX2 66 yX2_groundPercents, Cond.instanceMethod yX2_groundPercents, Cond.selects RX2 yX2_groundPercents yX2_groundPercents, Cond.code yX2_groundPercents cX2_groundPercents 1 (some .int), Cond.fieldLink RX2 21 "LadderClimb$Rig" "ground" "I", Cond.methodLink RX2 55 yX2_load, Cond.instanceMethod yX2_load, Cond.selects RX2 yX2_load yX2_load, Cond.code yX2_load cX2_load 3 (some .int), Cond.methodLink RX2 72 yX2_greatestForce, Cond.instanceMethod yX2_greatestForce, Cond.selects RX2 yX2_greatestForce yX2_greatestForce, Cond.code yX2_greatestForce cX2_greatestForce 3 (some .int), Cond.methodLink RX5 189 yX3_people, Cond.instanceMethod yX3_people, Cond.selects RX3 yX3_people yX3_people, Cond.code yX3_people cX3_people 3 (some .int), Cond.fieldLink RX3 33 "LadderClimb$Rig" "people" "I", Cond.methodLink RX5 191 yX3_falls]
def wsX5_count_r4 : List Cond := [Cond.instanceMethod yX3_falls, Cond.selects RX3 yX3_falls yX3_falls, Cond.code yX3_falls cX3_falls 3 (some .int), Cond.fieldLink RX3 36 "LadderClimb$Rig" "falls" "I"]
def wsX5_count : List Cond := .code yX5_count cX5_count 2 (some .int) :: ((wsX5_count_r1 ++ (wsX5_count_r2 ++ (wsX5_count_r3 ++ wsX5_count_r4))) ++ wsX50 ++ wsX30 ++ wsX00 ++ wsX20 ++ (vx_atS RX5 122 "java/lang/IllegalArgumentException" ["java/lang/RuntimeException", "java/lang/Exception"]).filter goodWord)
def wsX5_highest_r1 : List Cond := [Cond.fieldLink RX5 33 "LadderClimb" "trial" "LLadderClimb$Rig;", Cond.methodLink RX5 37 yX5_rigOf, Cond.instanceMethod yX5_rigOf, Cond.selects RX5 yX5_rigOf yX5_rigOf, Cond.initialized RX5, Cond.code yX5_rigOf cX5_rigOf 2 (some (.object "LadderClimb$Rig")), Cond.classLink RX5 280 "java/lang/IndexOutOfBoundsException", Cond.initialized "java/lang/IndexOutOfBoundsException", Cond.fieldLink RX5 10 "LadderClimb" "site" "LLadderClimb$Site;", Cond.fieldLink RX5 285 "LadderClimb$Site" "rigs" "[LLadderClimb$Rig;", Cond.methodLink RX5 90 yX5_demandPerson, Cond.static yX5_demandPerson, Cond.code yX5_demandPerson cX5_demandPerson 2 none, Cond.methodLink RX5 289 yX2_bears, Cond.instanceMethod yX2_bears, Cond.selects RX2 yX2_bears yX2_bears, Cond.initialized RX2, Cond.code yX2_bears cX2_bears 2 (some .boolean), Cond.fieldLink RX2 33 "LadderClimb$Rig" "people" "I", Cond.methodLink RX5 201 yX2_copyFrom, Cond.instanceMethod yX2_copyFrom, Cond.selects RX2 yX2_copyFrom yX2_copyFrom, Cond.code yX2_copyFrom cX2_copyFrom 3 none, Cond.fieldLink RX2 9 "LadderClimb$Rig" "base" "I"]
def wsX5_highest_r2 : List Cond := [Cond.fieldLink RX2 15 "LadderClimb$Rig" "height" "I", Cond.fieldLink RX2 18 "LadderClimb$Rig" "weight" "I", Cond.fieldLink RX2 21 "LadderClimb$Rig" "ground" "I", Cond.fieldLink RX2 24 "LadderClimb$Rig" "wall" "I", Cond.fieldLink RX2 27 "LadderClimb$Rig" "rope" "I", Cond.fieldLink RX2 30 "LadderClimb$Rig" "falls" "I", Cond.fieldLink RX2 36 "LadderClimb$Rig" "weights" "[I", Cond.fieldLink RX2 40 "LadderClimb$Rig" "steps" "[I", Cond.methodLink RX5 163 yX2_stepOf, Cond.instanceMethod yX2_stepOf, Cond.selects RX2 yX2_stepOf yX2_stepOf, Cond.code yX2_stepOf cX2_stepOf 2 (some .int), Cond.methodLink RX2 43 yX2_bears, Cond.methodLink RX5 205 yX2_setStep, Cond.instanceMethod yX2_setStep, Cond.selects RX2 yX2_setStep yX2_setStep, Cond.code yX2_setStep cX2_setStep 3 none, Cond.methodLink RX5 154 yX2_stands, Cond.instanceMethod yX2_stands, Cond.selects RX2 yX2_stands yX2_stands, Cond.code yX2_stands cX2_stands 1 (some .boolean), Cond.methodLink RX2 69 yX2_leastForce, Cond.instanceMethod yX2_leastForce, Cond.selects RX2 yX2_leastForce yX2_leastForce]
def wsX5_highest_r3 : List Cond := [Cond.code yX2_leastForce cX2_leastForce 1 (some .int), Cond.methodLink RX2 75 Lib.Math.max.name, Cond.static Lib.Math.max.name, Cond.initialized "java/lang/Math", Cond.code Lib.Math.max.name Lib.Math.max.code 2 (some .int), Cond.methodLink RX2 82 yX2_leastByWall, Cond.instanceMethod yX2_leastByWall, Cond.selects RX2 yX2_leastByWall yX2_leastByWall, Cond.code yX2_leastByWall cX2_leastByWall 3 (some .int), Cond.methodLink RX2 63 yX2_wallPercents, Cond.instanceMethod yX2_wallPercents, Cond.selects RX2 yX2_wallPercents yX2_wallPercents, Cond.code yX2_wallPercents cX2_wallPercents 1 (some .int), Cond.methodLink RX2 47 yX2_moment, Cond.instanceMethod yX2_moment, Cond.selects RX2 yX2_moment yX2_moment, Cond.code yX2_moment cX2_moment 3 (some .int), Cond.methodLink RX2 88 yJ9_floorDiv_7cf53, Cond.static yJ9_floorDiv_7cf53, Cond.initialized RJ9, Cond.code yJ9_floorDiv_7cf53 cJ9_floorDiv_7cf53 3 (some .int), Cond.methodLink RX2 85 yX2_leastByGround, Cond.instanceMethod yX2_leastByGround, Cond.selects RX2 yX2_leastByGround yX2_leastByGround]
def wsX5_highest_r4 : List Cond := [Cond.code yX2_leastByGround cX2_leastByGround 3 (some .int), Cond.methodLink RX2 66 yX2_groundPercents, Cond.instanceMethod yX2_groundPercents, Cond.selects RX2 yX2_groundPercents yX2_groundPercents, Cond.code yX2_groundPercents cX2_groundPercents 1 (some .int), Cond.methodLink RX2 55 yX2_load, Cond.instanceMethod yX2_load, Cond.selects RX2 yX2_load yX2_load, Cond.code yX2_load cX2_load 3 (some .int), Cond.methodLink RX2 72 yX2_greatestForce, Cond.instanceMethod yX2_greatestForce, Cond.selects RX2 yX2_greatestForce yX2_greatestForce, Cond.code yX2_greatestForce cX2_greatestForce 3 (some .int)]
def wsX5_highest : List Cond := .code yX5_highest cX5_highest 6 (some .int) :: ((wsX5_highest_r1 ++ (wsX5_highest_r2 ++ (wsX5_highest_r3 ++ wsX5_highest_r4))) ++ wsX50 ++ wsX30 ++ wsX20 ++ (vx_atS RX5 284 "java/lang/IndexOutOfBoundsException" ["java/lang/RuntimeException", "java/lang/Exception"]).filter goodWord)
def wsX5_neededRope_r1 : List Cond := [Cond.fieldLink RX5 33 "LadderClimb" "trial" "LLadderClimb$Rig;", Cond.fieldLink RX5 69 "LadderClimb$Rig" "rope" "I", Cond.methodLink RX5 37 yX5_rigOf, Cond.instanceMethod yX5_rigOf, Cond.selects RX5 yX5_rigOf yX5_rigOf, Cond.initialized RX5, Cond.code yX5_rigOf cX5_rigOf 2 (some (.object "LadderClimb$Rig")), Cond.classLink RX5 280 "java/lang/IndexOutOfBoundsException", Cond.initialized "java/lang/IndexOutOfBoundsException", Cond.fieldLink RX5 10 "LadderClimb" "site" "LLadderClimb$Site;", Cond.fieldLink RX5 285 "LadderClimb$Site" "rigs" "[LLadderClimb$Rig;", Cond.methodLink RX5 201 yX2_copyFrom, Cond.instanceMethod yX2_copyFrom, Cond.selects RX2 yX2_copyFrom yX2_copyFrom, Cond.initialized RX2, Cond.code yX2_copyFrom cX2_copyFrom 3 none, Cond.fieldLink RX2 9 "LadderClimb$Rig" "base" "I", Cond.fieldLink RX2 15 "LadderClimb$Rig" "height" "I", Cond.fieldLink RX2 18 "LadderClimb$Rig" "weight" "I", Cond.fieldLink RX2 21 "LadderClimb$Rig" "ground" "I", Cond.fieldLink RX2 24 "LadderClimb$Rig" "wall" "I", Cond.fieldLink RX2 27 "LadderClimb$Rig" "rope" "I", Cond.fieldLink RX2 30 "LadderClimb$Rig" "falls" "I", Cond.fieldLink RX2 33 "LadderClimb$Rig" "people" "I"]
def wsX5_neededRope_r2 : List Cond := [Cond.fieldLink RX2 36 "LadderClimb$Rig" "weights" "[I", Cond.fieldLink RX2 40 "LadderClimb$Rig" "steps" "[I", Cond.methodLink RX5 154 yX2_stands, Cond.instanceMethod yX2_stands, Cond.selects RX2 yX2_stands yX2_stands, Cond.code yX2_stands cX2_stands 1 (some .boolean), Cond.methodLink RX2 69 yX2_leastForce, Cond.instanceMethod yX2_leastForce, Cond.selects RX2 yX2_leastForce yX2_leastForce, Cond.code yX2_leastForce cX2_leastForce 1 (some .int), Cond.methodLink RX2 75 Lib.Math.max.name, Cond.static Lib.Math.max.name, Cond.initialized "java/lang/Math", Cond.code Lib.Math.max.name Lib.Math.max.code 2 (some .int), Cond.methodLink RX2 82 yX2_leastByWall, Cond.instanceMethod yX2_leastByWall, Cond.selects RX2 yX2_leastByWall yX2_leastByWall, Cond.code yX2_leastByWall cX2_leastByWall 3 (some .int), Cond.methodLink RX2 63 yX2_wallPercents, Cond.instanceMethod yX2_wallPercents, Cond.selects RX2 yX2_wallPercents yX2_wallPercents, Cond.code yX2_wallPercents cX2_wallPercents 1 (some .int), Cond.methodLink RX2 47 yX2_moment, Cond.instanceMethod yX2_moment]
def wsX5_neededRope_r3 : List Cond := [Cond.selects RX2 yX2_moment yX2_moment, Cond.code yX2_moment cX2_moment 3 (some .int), Cond.methodLink RX2 88 yJ9_floorDiv_7cf53, Cond.static yJ9_floorDiv_7cf53, Cond.initialized RJ9, Cond.code yJ9_floorDiv_7cf53 cJ9_floorDiv_7cf53 3 (some .int), Cond.methodLink RX2 85 yX2_leastByGround, Cond.instanceMethod yX2_leastByGround, Cond.selects RX2 yX2_leastByGround yX2_leastByGround, Cond.code yX2_leastByGround cX2_leastByGround 3 (some .int), Cond.methodLink RX2 66 yX2_groundPercents, Cond.instanceMethod yX2_groundPercents, Cond.selects RX2 yX2_groundPercents yX2_groundPercents, Cond.code yX2_groundPercents cX2_groundPercents 1 (some .int), Cond.methodLink RX2 55 yX2_load, Cond.instanceMethod yX2_load, Cond.selects RX2 yX2_load yX2_load, Cond.code yX2_load cX2_load 3 (some .int), Cond.methodLink RX2 72 yX2_greatestForce, Cond.instanceMethod yX2_greatestForce, Cond.selects RX2 yX2_greatestForce yX2_greatestForce, Cond.code yX2_greatestForce cX2_greatestForce 3 (some .int)]
def wsX5_neededRope : List Cond := .code yX5_neededRope cX5_neededRope 3 (some .int) :: ((wsX5_neededRope_r1 ++ (wsX5_neededRope_r2 ++ wsX5_neededRope_r3)) ++ wsX50 ++ wsX20 ++ wsX30 ++ (vx_atS RX5 284 "java/lang/IndexOutOfBoundsException" ["java/lang/RuntimeException", "java/lang/Exception"]).filter goodWord)
def wsX5_bestBase_r1 : List Cond := [Cond.fieldLink RX5 33 "LadderClimb" "trial" "LLadderClimb$Rig;", Cond.fieldLink RX5 49 "LadderClimb$Rig" "base" "I", Cond.methodLink RX5 37 yX5_rigOf, Cond.instanceMethod yX5_rigOf, Cond.selects RX5 yX5_rigOf yX5_rigOf, Cond.initialized RX5, Cond.code yX5_rigOf cX5_rigOf 2 (some (.object "LadderClimb$Rig")), Cond.classLink RX5 280 "java/lang/IndexOutOfBoundsException", Cond.initialized "java/lang/IndexOutOfBoundsException", Cond.fieldLink RX5 10 "LadderClimb" "site" "LLadderClimb$Site;", Cond.fieldLink RX5 285 "LadderClimb$Site" "rigs" "[LLadderClimb$Rig;", Cond.methodLink RX5 201 yX2_copyFrom, Cond.instanceMethod yX2_copyFrom, Cond.selects RX2 yX2_copyFrom yX2_copyFrom, Cond.initialized RX2, Cond.code yX2_copyFrom cX2_copyFrom 3 none, Cond.fieldLink RX2 9 "LadderClimb$Rig" "base" "I", Cond.fieldLink RX2 15 "LadderClimb$Rig" "height" "I", Cond.fieldLink RX2 18 "LadderClimb$Rig" "weight" "I", Cond.fieldLink RX2 21 "LadderClimb$Rig" "ground" "I", Cond.fieldLink RX2 24 "LadderClimb$Rig" "wall" "I", Cond.fieldLink RX2 27 "LadderClimb$Rig" "rope" "I", Cond.fieldLink RX2 30 "LadderClimb$Rig" "falls" "I", Cond.fieldLink RX2 33 "LadderClimb$Rig" "people" "I"]
def wsX5_bestBase_r2 : List Cond := [Cond.fieldLink RX2 36 "LadderClimb$Rig" "weights" "[I", Cond.fieldLink RX2 40 "LadderClimb$Rig" "steps" "[I", Cond.methodLink RX5 168 yX2_forces, Cond.instanceMethod yX2_forces, Cond.selects RX2 yX2_forces yX2_forces, Cond.code yX2_forces cX2_forces 1 (some .int), Cond.methodLink RX2 75 Lib.Math.max.name, Cond.static Lib.Math.max.name, Cond.initialized "java/lang/Math", Cond.code Lib.Math.max.name Lib.Math.max.code 2 (some .int), Cond.methodLink RX2 72 yX2_greatestForce, Cond.instanceMethod yX2_greatestForce, Cond.selects RX2 yX2_greatestForce yX2_greatestForce, Cond.code yX2_greatestForce cX2_greatestForce 3 (some .int), Cond.methodLink RX2 63 yX2_wallPercents, Cond.instanceMethod yX2_wallPercents, Cond.selects RX2 yX2_wallPercents yX2_wallPercents, Cond.code yX2_wallPercents cX2_wallPercents 1 (some .int), Cond.methodLink RX2 47 yX2_moment, Cond.instanceMethod yX2_moment, Cond.selects RX2 yX2_moment yX2_moment, Cond.code yX2_moment cX2_moment 3 (some .int), Cond.methodLink RX2 88 yJ9_floorDiv_7cf53, Cond.static yJ9_floorDiv_7cf53]
def wsX5_bestBase_r3 : List Cond := [Cond.initialized RJ9, Cond.code yJ9_floorDiv_7cf53 cJ9_floorDiv_7cf53 3 (some .int), Cond.methodLink RX2 69 yX2_leastForce, Cond.instanceMethod yX2_leastForce, Cond.selects RX2 yX2_leastForce yX2_leastForce, Cond.code yX2_leastForce cX2_leastForce 1 (some .int), Cond.methodLink RX2 82 yX2_leastByWall, Cond.instanceMethod yX2_leastByWall, Cond.selects RX2 yX2_leastByWall yX2_leastByWall, Cond.code yX2_leastByWall cX2_leastByWall 3 (some .int), Cond.methodLink RX2 85 yX2_leastByGround, Cond.instanceMethod yX2_leastByGround, Cond.selects RX2 yX2_leastByGround yX2_leastByGround, Cond.code yX2_leastByGround cX2_leastByGround 3 (some .int), Cond.methodLink RX2 66 yX2_groundPercents, Cond.instanceMethod yX2_groundPercents, Cond.selects RX2 yX2_groundPercents yX2_groundPercents, Cond.code yX2_groundPercents cX2_groundPercents 1 (some .int), Cond.methodLink RX2 55 yX2_load, Cond.instanceMethod yX2_load, Cond.selects RX2 yX2_load yX2_load, Cond.code yX2_load cX2_load 3 (some .int)]
def wsX5_bestBase : List Cond := .code yX5_bestBase cX5_bestBase 6 (some .int) :: ((wsX5_bestBase_r1 ++ (wsX5_bestBase_r2 ++ wsX5_bestBase_r3)) ++ wsX50 ++ wsX20 ++ wsX30 ++ (vx_atS RX5 284 "java/lang/IndexOutOfBoundsException" ["java/lang/RuntimeException", "java/lang/Exception"]).filter goodWord)
def wsX5_riskiest_r1 : List Cond := [Cond.fieldLink RX5 87 "LadderClimb$Rig" "people" "I", Cond.fieldLink RX5 33 "LadderClimb" "trial" "LLadderClimb$Rig;", Cond.methodLink RX5 37 yX5_rigOf, Cond.instanceMethod yX5_rigOf, Cond.selects RX5 yX5_rigOf yX5_rigOf, Cond.initialized RX5, Cond.code yX5_rigOf cX5_rigOf 2 (some (.object "LadderClimb$Rig")), Cond.classLink RX5 280 "java/lang/IndexOutOfBoundsException", Cond.initialized "java/lang/IndexOutOfBoundsException", Cond.fieldLink RX5 10 "LadderClimb" "site" "LLadderClimb$Site;", Cond.fieldLink RX5 285 "LadderClimb$Site" "rigs" "[LLadderClimb$Rig;", Cond.methodLink RX5 201 yX2_copyFrom, Cond.instanceMethod yX2_copyFrom, Cond.selects RX2 yX2_copyFrom yX2_copyFrom, Cond.initialized RX2, Cond.code yX2_copyFrom cX2_copyFrom 3 none, Cond.fieldLink RX2 9 "LadderClimb$Rig" "base" "I", Cond.fieldLink RX2 15 "LadderClimb$Rig" "height" "I", Cond.fieldLink RX2 18 "LadderClimb$Rig" "weight" "I", Cond.fieldLink RX2 21 "LadderClimb$Rig" "ground" "I", Cond.fieldLink RX2 24 "LadderClimb$Rig" "wall" "I", Cond.fieldLink RX2 27 "LadderClimb$Rig" "rope" "I", Cond.fieldLink RX2 30 "LadderClimb$Rig" "falls" "I", Cond.fieldLink RX2 33 "LadderClimb$Rig" "people" "I"]
def wsX5_riskiest_r2 : List Cond := [Cond.fieldLink RX2 36 "LadderClimb$Rig" "weights" "[I", Cond.fieldLink RX2 40 "LadderClimb$Rig" "steps" "[I", Cond.methodLink RX5 94 yX2_remove, Cond.instanceMethod yX2_remove, Cond.selects RX2 yX2_remove yX2_remove, Cond.code yX2_remove cX2_remove 3 none, Cond.methodLink RX2 43 yX2_bears, Cond.instanceMethod yX2_bears, Cond.selects RX2 yX2_bears yX2_bears, Cond.code yX2_bears cX2_bears 2 (some .boolean), Cond.methodLink RX5 168 yX2_forces, Cond.instanceMethod yX2_forces, Cond.selects RX2 yX2_forces yX2_forces, Cond.code yX2_forces cX2_forces 1 (some .int), Cond.methodLink RX2 75 Lib.Math.max.name, Cond.static Lib.Math.max.name, Cond.initialized "java/lang/Math", Cond.code Lib.Math.max.name Lib.Math.max.code 2 (some .int), Cond.methodLink RX2 72 yX2_greatestForce, Cond.instanceMethod yX2_greatestForce, Cond.selects RX2 yX2_greatestForce yX2_greatestForce, Cond.code yX2_greatestForce cX2_greatestForce 3 (some .int), Cond.methodLink RX2 63 yX2_wallPercents, Cond.instanceMethod yX2_wallPercents]
def wsX5_riskiest_r3 : List Cond := [Cond.selects RX2 yX2_wallPercents yX2_wallPercents, Cond.code yX2_wallPercents cX2_wallPercents 1 (some .int), Cond.methodLink RX2 47 yX2_moment, Cond.instanceMethod yX2_moment, Cond.selects RX2 yX2_moment yX2_moment, Cond.code yX2_moment cX2_moment 3 (some .int), Cond.methodLink RX2 88 yJ9_floorDiv_7cf53, Cond.static yJ9_floorDiv_7cf53, Cond.initialized RJ9, Cond.code yJ9_floorDiv_7cf53 cJ9_floorDiv_7cf53 3 (some .int), Cond.methodLink RX2 69 yX2_leastForce, Cond.instanceMethod yX2_leastForce, Cond.selects RX2 yX2_leastForce yX2_leastForce, Cond.code yX2_leastForce cX2_leastForce 1 (some .int), Cond.methodLink RX2 82 yX2_leastByWall, Cond.instanceMethod yX2_leastByWall, Cond.selects RX2 yX2_leastByWall yX2_leastByWall, Cond.code yX2_leastByWall cX2_leastByWall 3 (some .int), Cond.methodLink RX2 85 yX2_leastByGround, Cond.instanceMethod yX2_leastByGround, Cond.selects RX2 yX2_leastByGround yX2_leastByGround, Cond.code yX2_leastByGround cX2_leastByGround 3 (some .int), Cond.methodLink RX2 66 yX2_groundPercents, Cond.instanceMethod yX2_groundPercents]
def wsX5_riskiest_r4 : List Cond := [Cond.selects RX2 yX2_groundPercents yX2_groundPercents, Cond.code yX2_groundPercents cX2_groundPercents 1 (some .int), Cond.methodLink RX2 55 yX2_load, Cond.instanceMethod yX2_load, Cond.selects RX2 yX2_load yX2_load, Cond.code yX2_load cX2_load 3 (some .int)]
def wsX5_riskiest : List Cond := .code yX5_riskiest cX5_riskiest 7 (some .int) :: ((wsX5_riskiest_r1 ++ (wsX5_riskiest_r2 ++ (wsX5_riskiest_r3 ++ wsX5_riskiest_r4))) ++ wsX20 ++ wsX50 ++ wsX30 ++ (vx_atS RX5 284 "java/lang/IndexOutOfBoundsException" ["java/lang/RuntimeException", "java/lang/Exception"]).filter goodWord)
def wsX5_walls_r1 : List Cond := [Cond.fieldLink RX5 33 "LadderClimb" "trial" "LLadderClimb$Rig;", Cond.fieldLink RX5 66 "LadderClimb$Rig" "wall" "I", Cond.methodLink RX5 37 yX5_rigOf, Cond.instanceMethod yX5_rigOf, Cond.selects RX5 yX5_rigOf yX5_rigOf, Cond.initialized RX5, Cond.code yX5_rigOf cX5_rigOf 2 (some (.object "LadderClimb$Rig")), Cond.classLink RX5 280 "java/lang/IndexOutOfBoundsException", Cond.initialized "java/lang/IndexOutOfBoundsException", Cond.fieldLink RX5 10 "LadderClimb" "site" "LLadderClimb$Site;", Cond.fieldLink RX5 285 "LadderClimb$Site" "rigs" "[LLadderClimb$Rig;", Cond.methodLink RX5 201 yX2_copyFrom, Cond.instanceMethod yX2_copyFrom, Cond.selects RX2 yX2_copyFrom yX2_copyFrom, Cond.initialized RX2, Cond.code yX2_copyFrom cX2_copyFrom 3 none, Cond.fieldLink RX2 9 "LadderClimb$Rig" "base" "I", Cond.fieldLink RX2 15 "LadderClimb$Rig" "height" "I", Cond.fieldLink RX2 18 "LadderClimb$Rig" "weight" "I", Cond.fieldLink RX2 21 "LadderClimb$Rig" "ground" "I", Cond.fieldLink RX2 24 "LadderClimb$Rig" "wall" "I", Cond.fieldLink RX2 27 "LadderClimb$Rig" "rope" "I", Cond.fieldLink RX2 30 "LadderClimb$Rig" "falls" "I", Cond.fieldLink RX2 33 "LadderClimb$Rig" "people" "I"]
def wsX5_walls_r2 : List Cond := [Cond.fieldLink RX2 36 "LadderClimb$Rig" "weights" "[I", Cond.fieldLink RX2 40 "LadderClimb$Rig" "steps" "[I", Cond.methodLink RX5 154 yX2_stands, Cond.instanceMethod yX2_stands, Cond.selects RX2 yX2_stands yX2_stands, Cond.code yX2_stands cX2_stands 1 (some .boolean), Cond.methodLink RX2 69 yX2_leastForce, Cond.instanceMethod yX2_leastForce, Cond.selects RX2 yX2_leastForce yX2_leastForce, Cond.code yX2_leastForce cX2_leastForce 1 (some .int), Cond.methodLink RX2 75 Lib.Math.max.name, Cond.static Lib.Math.max.name, Cond.initialized "java/lang/Math", Cond.code Lib.Math.max.name Lib.Math.max.code 2 (some .int), Cond.methodLink RX2 82 yX2_leastByWall, Cond.instanceMethod yX2_leastByWall, Cond.selects RX2 yX2_leastByWall yX2_leastByWall, Cond.code yX2_leastByWall cX2_leastByWall 3 (some .int), Cond.methodLink RX2 63 yX2_wallPercents, Cond.instanceMethod yX2_wallPercents, Cond.selects RX2 yX2_wallPercents yX2_wallPercents, Cond.code yX2_wallPercents cX2_wallPercents 1 (some .int), Cond.methodLink RX2 47 yX2_moment, Cond.instanceMethod yX2_moment]
def wsX5_walls_r3 : List Cond := [Cond.selects RX2 yX2_moment yX2_moment, Cond.code yX2_moment cX2_moment 3 (some .int), Cond.methodLink RX2 88 yJ9_floorDiv_7cf53, Cond.static yJ9_floorDiv_7cf53, Cond.initialized RJ9, Cond.code yJ9_floorDiv_7cf53 cJ9_floorDiv_7cf53 3 (some .int), Cond.methodLink RX2 85 yX2_leastByGround, Cond.instanceMethod yX2_leastByGround, Cond.selects RX2 yX2_leastByGround yX2_leastByGround, Cond.code yX2_leastByGround cX2_leastByGround 3 (some .int), Cond.methodLink RX2 66 yX2_groundPercents, Cond.instanceMethod yX2_groundPercents, Cond.selects RX2 yX2_groundPercents yX2_groundPercents, Cond.code yX2_groundPercents cX2_groundPercents 1 (some .int), Cond.methodLink RX2 55 yX2_load, Cond.instanceMethod yX2_load, Cond.selects RX2 yX2_load yX2_load, Cond.code yX2_load cX2_load 3 (some .int), Cond.methodLink RX2 72 yX2_greatestForce, Cond.instanceMethod yX2_greatestForce, Cond.selects RX2 yX2_greatestForce yX2_greatestForce, Cond.code yX2_greatestForce cX2_greatestForce 3 (some .int)]
def wsX5_walls : List Cond := .code yX5_walls cX5_walls 4 (some .int) :: ((wsX5_walls_r1 ++ (wsX5_walls_r2 ++ wsX5_walls_r3)) ++ wsX50 ++ wsX20 ++ wsX30 ++ (vx_atS RX5 284 "java/lang/IndexOutOfBoundsException" ["java/lang/RuntimeException", "java/lang/Exception"]).filter goodWord)
def wsX5_safety : List Cond := .code yX5_safety cX5_safety 3 (some .double) :: ([.fieldLink RX5 10 "LadderClimb" "site" "LLadderClimb$Site;", .fieldLink RX5 193 "LadderClimb$Site" "fallen" "I", .methodLink RX5 189 yX3_people, .instanceMethod yX3_people, .selects RX3 yX3_people yX3_people, .initialized RX3, .code yX3_people cX3_people 3 (some .int), .fieldLink RX3 11 "LadderClimb$Site" "rigs" "[LLadderClimb$Rig;", .fieldLink RX3 33 "LadderClimb$Rig" "people" "I"] ++ wsX50 ++ wsX30 ++ wsX20)
def wsJ9_abs_0f7a4 : List Cond := .code yJ9_abs_0f7a4 cJ9_abs_0f7a4 1 (some .int) :: ([])
def wsJ9_max_7cf53 : List Cond := .code yJ9_max_7cf53 cJ9_max_7cf53 2 (some .int) :: ([])
def wsJ9_min_7cf53 : List Cond := .code yJ9_min_7cf53 cJ9_min_7cf53 2 (some .int) :: ([])
def wsL_cell : List Cond := .code yL_cell cL_cell 2 (some .int) :: ([])
def wsL_low : List Cond := .code yL_low cL_low 2 (some .int) :: ([.constant RL 7 (2147483647)])
def wsL_changes_r1 : List Cond := [Cond.classLink RL 31 "java/lang/IndexOutOfBoundsException", Cond.classLink RL 33 "java/lang/IllegalArgumentException", Cond.classLink RL 35 "java/lang/IllegalStateException", Cond.methodLink RL 8 yX5_put, Cond.instanceMethod yX5_put, Cond.selects RX5 yX5_put yX5_put, Cond.initialized RX5, Cond.code yX5_put cX5_put 6 (some .int), Cond.fieldLink RX5 19 "LadderClimb" "history" "LLadderClimb$History;", Cond.fieldLink RX5 10 "LadderClimb" "site" "LLadderClimb$Site;", Cond.fieldLink RX5 49 "LadderClimb$Rig" "base" "I", Cond.fieldLink RX5 53 "LadderClimb$Rig" "height" "I", Cond.fieldLink RX5 56 "LadderClimb$Rig" "weight" "I", Cond.methodLink RX5 37 yX5_rigOf, Cond.instanceMethod yX5_rigOf, Cond.selects RX5 yX5_rigOf yX5_rigOf, Cond.code yX5_rigOf cX5_rigOf 2 (some (.object "LadderClimb$Rig")), Cond.classLink RX5 280 "java/lang/IndexOutOfBoundsException", Cond.initialized "java/lang/IndexOutOfBoundsException", Cond.fieldLink RX5 285 "LadderClimb$Site" "rigs" "[LLadderClimb$Rig;", Cond.methodLink RX5 41 yX5_demandRange, Cond.static yX5_demandRange, Cond.code yX5_demandRange cX5_demandRange 3 none, Cond.classLink RX5 118 "java/lang/IllegalArgumentException"]
def wsL_changes_r2 : List Cond := [Cond.initialized "java/lang/IllegalArgumentException", Cond.methodLink RX5 45 yX0_save, Cond.instanceMethod yX0_save, Cond.selects RX0 yX0_save yX0_save, Cond.initialized RX0, Cond.code yX0_save cX0_save 2 none, Cond.fieldLink RX0 17 "LadderClimb$History" "next" "I", Cond.fieldLink RX0 11 "LadderClimb$History" "saved" "[LLadderClimb$Site;", Cond.fieldLink RX0 21 "LadderClimb$History" "size" "I", Cond.methodLink RX0 29 Lib.Math.min.name, Cond.static Lib.Math.min.name, Cond.initialized "java/lang/Math", Cond.code Lib.Math.min.name Lib.Math.min.code 2 (some .int), Cond.methodLink RX0 25 yX3_copyFrom, Cond.instanceMethod yX3_copyFrom, Cond.selects RX3 yX3_copyFrom yX3_copyFrom, Cond.initialized RX3, Cond.code yX3_copyFrom cX3_copyFrom 3 none, Cond.fieldLink RX3 11 "LadderClimb$Site" "rigs" "[LLadderClimb$Rig;", Cond.fieldLink RX3 17 "LadderClimb$Site" "fallen" "I", Cond.fieldLink RX3 21 "LadderClimb$Site" "climbed" "I", Cond.methodLink RX3 25 yX2_copyFrom, Cond.instanceMethod yX2_copyFrom, Cond.selects RX2 yX2_copyFrom yX2_copyFrom]
def wsL_changes_r3 : List Cond := [Cond.initialized RX2, Cond.code yX2_copyFrom cX2_copyFrom 3 none, Cond.fieldLink RX2 9 "LadderClimb$Rig" "base" "I", Cond.fieldLink RX2 15 "LadderClimb$Rig" "height" "I", Cond.fieldLink RX2 18 "LadderClimb$Rig" "weight" "I", Cond.fieldLink RX2 21 "LadderClimb$Rig" "ground" "I", Cond.fieldLink RX2 24 "LadderClimb$Rig" "wall" "I", Cond.fieldLink RX2 27 "LadderClimb$Rig" "rope" "I", Cond.fieldLink RX2 30 "LadderClimb$Rig" "falls" "I", Cond.fieldLink RX2 33 "LadderClimb$Rig" "people" "I", Cond.fieldLink RX2 36 "LadderClimb$Rig" "weights" "[I", Cond.fieldLink RX2 40 "LadderClimb$Rig" "steps" "[I", Cond.methodLink RX5 59 yX3_fallsNow, Cond.instanceMethod yX3_fallsNow, Cond.selects RX3 yX3_fallsNow yX3_fallsNow, Cond.code yX3_fallsNow cX3_fallsNow 2 (some .boolean), Cond.fieldLink RX3 33 "LadderClimb$Rig" "people" "I", Cond.methodLink RX3 29 yX2_stands, Cond.instanceMethod yX2_stands, Cond.selects RX2 yX2_stands yX2_stands, Cond.code yX2_stands cX2_stands 1 (some .boolean), Cond.methodLink RX2 69 yX2_leastForce, Cond.instanceMethod yX2_leastForce, Cond.selects RX2 yX2_leastForce yX2_leastForce]
def wsL_changes_r4 : List Cond := [Cond.code yX2_leastForce cX2_leastForce 1 (some .int), Cond.methodLink RX2 75 Lib.Math.max.name, Cond.static Lib.Math.max.name, Cond.code Lib.Math.max.name Lib.Math.max.code 2 (some .int), Cond.methodLink RX2 82 yX2_leastByWall, Cond.instanceMethod yX2_leastByWall, Cond.selects RX2 yX2_leastByWall yX2_leastByWall, Cond.code yX2_leastByWall cX2_leastByWall 3 (some .int), Cond.methodLink RX2 63 yX2_wallPercents, Cond.instanceMethod yX2_wallPercents, Cond.selects RX2 yX2_wallPercents yX2_wallPercents, Cond.code yX2_wallPercents cX2_wallPercents 1 (some .int), Cond.methodLink RX2 47 yX2_moment, Cond.instanceMethod yX2_moment, Cond.selects RX2 yX2_moment yX2_moment, Cond.code yX2_moment cX2_moment 3 (some .int), Cond.methodLink RX2 88 yJ9_floorDiv_7cf53, Cond.static yJ9_floorDiv_7cf53, Cond.initialized RJ9, Cond.code yJ9_floorDiv_7cf53 cJ9_floorDiv_7cf53 3 (some .int), Cond.methodLink RX2 85 yX2_leastByGround, Cond.instanceMethod yX2_leastByGround, Cond.selects RX2 yX2_leastByGround yX2_leastByGround, Cond.code yX2_leastByGround cX2_leastByGround 3 (some .int)]
def wsL_changes_r5 : List Cond := [Cond.methodLink RX2 66 yX2_groundPercents, Cond.instanceMethod yX2_groundPercents, Cond.selects RX2 yX2_groundPercents yX2_groundPercents, Cond.code yX2_groundPercents cX2_groundPercents 1 (some .int), Cond.methodLink RX2 55 yX2_load, Cond.instanceMethod yX2_load, Cond.selects RX2 yX2_load yX2_load, Cond.code yX2_load cX2_load 3 (some .int), Cond.methodLink RX2 72 yX2_greatestForce, Cond.instanceMethod yX2_greatestForce, Cond.selects RX2 yX2_greatestForce yX2_greatestForce, Cond.code yX2_greatestForce cX2_greatestForce 3 (some .int), Cond.methodLink RX3 39 yX3_fall, Cond.instanceMethod yX3_fall, Cond.selects RX3 yX3_fall yX3_fall, Cond.code yX3_fall cX3_fall 2 none, Cond.fieldLink RX3 36 "LadderClimb$Rig" "falls" "I", Cond.methodLink RX3 42 yX2_removeAll, Cond.instanceMethod yX2_removeAll, Cond.selects RX2 yX2_removeAll yX2_removeAll, Cond.code yX2_removeAll cX2_removeAll 2 none, Cond.methodLink RL 14 yX5_kinds, Cond.instanceMethod yX5_kinds, Cond.selects RX5 yX5_kinds yX5_kinds]
def wsL_changes_r6 : List Cond := [Cond.code yX5_kinds cX5_kinds 5 (some .int), Cond.fieldLink RX5 63 "LadderClimb$Rig" "ground" "I", Cond.fieldLink RX5 66 "LadderClimb$Rig" "wall" "I", Cond.methodLink RL 18 yX5_rope, Cond.instanceMethod yX5_rope, Cond.selects RX5 yX5_rope yX5_rope, Cond.code yX5_rope cX5_rope 4 (some .int), Cond.fieldLink RX5 69 "LadderClimb$Rig" "rope" "I", Cond.methodLink RL 22 yX5_on, Cond.instanceMethod yX5_on, Cond.selects RX5 yX5_on yX5_on, Cond.code yX5_on cX5_on 4 (some .int), Cond.classLink RX5 76 "java/lang/IllegalStateException", Cond.initialized "java/lang/IllegalStateException", Cond.fieldLink RX5 87 "LadderClimb$Rig" "people" "I", Cond.methodLink RX5 72 yX2_isFull, Cond.instanceMethod yX2_isFull, Cond.selects RX2 yX2_isFull yX2_isFull, Cond.code yX2_isFull cX2_isFull 1 (some .boolean), Cond.methodLink RX5 83 yX2_add, Cond.instanceMethod yX2_add, Cond.selects RX2 yX2_add yX2_add, Cond.code yX2_add cX2_add 2 none, Cond.methodLink RL 25 yX5_off]
def wsL_changes_r7 : List Cond := [Cond.instanceMethod yX5_off, Cond.selects RX5 yX5_off yX5_off, Cond.code yX5_off cX5_off 4 (some .int), Cond.methodLink RX5 90 yX5_demandPerson, Cond.static yX5_demandPerson, Cond.code yX5_demandPerson cX5_demandPerson 2 none, Cond.methodLink RX5 289 yX2_bears, Cond.instanceMethod yX2_bears, Cond.selects RX2 yX2_bears yX2_bears, Cond.code yX2_bears cX2_bears 2 (some .boolean), Cond.methodLink RX5 94 yX2_remove, Cond.instanceMethod yX2_remove, Cond.selects RX2 yX2_remove yX2_remove, Cond.code yX2_remove cX2_remove 3 none, Cond.methodLink RX2 43 yX2_bears, Cond.methodLink RL 28 yX5_climb, Cond.instanceMethod yX5_climb, Cond.selects RX5 yX5_climb yX5_climb, Cond.code yX5_climb cX5_climb 5 (some .int), Cond.methodLink RX5 97 yX3_walk, Cond.instanceMethod yX3_walk, Cond.selects RX3 yX3_walk yX3_walk, Cond.code yX3_walk cX3_walk 8 (some .int), Cond.methodLink RX3 49 Lib.Math.abs.name]
def wsL_changes_r8 : List Cond := [Cond.static Lib.Math.abs.name, Cond.code Lib.Math.abs.name Lib.Math.abs.code 1 (some .int), Cond.methodLink RX3 45 yX2_stepOf, Cond.instanceMethod yX2_stepOf, Cond.selects RX2 yX2_stepOf yX2_stepOf, Cond.code yX2_stepOf cX2_stepOf 2 (some .int), Cond.methodLink RX3 54 yX2_setStep, Cond.instanceMethod yX2_setStep, Cond.selects RX2 yX2_setStep yX2_setStep, Cond.code yX2_setStep cX2_setStep 3 none]
def wsL_changes : List Cond := .codeWith yL_changes cL_changes 7 (some .int) [(0, 90, 93, 31), (0, 90, 97, 33), (0, 90, 101, 35)] :: ((wsL_changes_r1 ++ (wsL_changes_r2 ++ (wsL_changes_r3 ++ (wsL_changes_r4 ++ (wsL_changes_r5 ++ (wsL_changes_r6 ++ (wsL_changes_r7 ++ wsL_changes_r8))))))) ++ wsX50 ++ wsX20 ++ wsX30 ++ wsX00 ++ (vx_atS RX5 284 "java/lang/IndexOutOfBoundsException" ["java/lang/RuntimeException", "java/lang/Exception"]).filter goodWord ++ (vx_atS RX5 122 "java/lang/IllegalArgumentException" ["java/lang/RuntimeException", "java/lang/Exception"]).filter goodWord ++ (vx_atS RX5 80 "java/lang/IllegalStateException" ["java/lang/RuntimeException", "java/lang/Exception"]).filter goodWord)
def wsL_act_r1 : List Cond := [Cond.methodLink RL 37 yL_low, Cond.static yL_low, Cond.initialized RL, Cond.code yL_low cL_low 2 (some .int), Cond.constant RL 7 (2147483647), Cond.methodLink RL 42 yL_changes, Cond.static yL_changes, Cond.codeWith yL_changes cL_changes 7 (some .int) [(0, 90, 93, 31), (0, 90, 97, 33), (0, 90, 101, 35)], Cond.classLink RL 31 "java/lang/IndexOutOfBoundsException", Cond.classLink RL 33 "java/lang/IllegalArgumentException", Cond.classLink RL 35 "java/lang/IllegalStateException", Cond.methodLink RL 8 yX5_put, Cond.instanceMethod yX5_put, Cond.selects RX5 yX5_put yX5_put, Cond.initialized RX5, Cond.code yX5_put cX5_put 6 (some .int), Cond.fieldLink RX5 19 "LadderClimb" "history" "LLadderClimb$History;", Cond.fieldLink RX5 10 "LadderClimb" "site" "LLadderClimb$Site;", Cond.fieldLink RX5 49 "LadderClimb$Rig" "base" "I", Cond.fieldLink RX5 53 "LadderClimb$Rig" "height" "I", Cond.fieldLink RX5 56 "LadderClimb$Rig" "weight" "I", Cond.methodLink RX5 37 yX5_rigOf, Cond.instanceMethod yX5_rigOf, Cond.selects RX5 yX5_rigOf yX5_rigOf]
def wsL_act_r2 : List Cond := [Cond.code yX5_rigOf cX5_rigOf 2 (some (.object "LadderClimb$Rig")), Cond.classLink RX5 280 "java/lang/IndexOutOfBoundsException", Cond.initialized "java/lang/IndexOutOfBoundsException", Cond.fieldLink RX5 285 "LadderClimb$Site" "rigs" "[LLadderClimb$Rig;", Cond.methodLink RX5 41 yX5_demandRange, Cond.static yX5_demandRange, Cond.code yX5_demandRange cX5_demandRange 3 none, Cond.classLink RX5 118 "java/lang/IllegalArgumentException", Cond.initialized "java/lang/IllegalArgumentException", Cond.methodLink RX5 45 yX0_save, Cond.instanceMethod yX0_save, Cond.selects RX0 yX0_save yX0_save, Cond.initialized RX0, Cond.code yX0_save cX0_save 2 none, Cond.fieldLink RX0 17 "LadderClimb$History" "next" "I", Cond.fieldLink RX0 11 "LadderClimb$History" "saved" "[LLadderClimb$Site;", Cond.fieldLink RX0 21 "LadderClimb$History" "size" "I", Cond.methodLink RX0 29 Lib.Math.min.name, Cond.static Lib.Math.min.name, Cond.initialized "java/lang/Math", Cond.code Lib.Math.min.name Lib.Math.min.code 2 (some .int), Cond.methodLink RX0 25 yX3_copyFrom, Cond.instanceMethod yX3_copyFrom, Cond.selects RX3 yX3_copyFrom yX3_copyFrom]
def wsL_act_r3 : List Cond := [Cond.initialized RX3, Cond.code yX3_copyFrom cX3_copyFrom 3 none, Cond.fieldLink RX3 11 "LadderClimb$Site" "rigs" "[LLadderClimb$Rig;", Cond.fieldLink RX3 17 "LadderClimb$Site" "fallen" "I", Cond.fieldLink RX3 21 "LadderClimb$Site" "climbed" "I", Cond.methodLink RX3 25 yX2_copyFrom, Cond.instanceMethod yX2_copyFrom, Cond.selects RX2 yX2_copyFrom yX2_copyFrom, Cond.initialized RX2, Cond.code yX2_copyFrom cX2_copyFrom 3 none, Cond.fieldLink RX2 9 "LadderClimb$Rig" "base" "I", Cond.fieldLink RX2 15 "LadderClimb$Rig" "height" "I", Cond.fieldLink RX2 18 "LadderClimb$Rig" "weight" "I", Cond.fieldLink RX2 21 "LadderClimb$Rig" "ground" "I", Cond.fieldLink RX2 24 "LadderClimb$Rig" "wall" "I", Cond.fieldLink RX2 27 "LadderClimb$Rig" "rope" "I", Cond.fieldLink RX2 30 "LadderClimb$Rig" "falls" "I", Cond.fieldLink RX2 33 "LadderClimb$Rig" "people" "I", Cond.fieldLink RX2 36 "LadderClimb$Rig" "weights" "[I", Cond.fieldLink RX2 40 "LadderClimb$Rig" "steps" "[I", Cond.methodLink RX5 59 yX3_fallsNow, Cond.instanceMethod yX3_fallsNow, Cond.selects RX3 yX3_fallsNow yX3_fallsNow, Cond.code yX3_fallsNow cX3_fallsNow 2 (some .boolean)]
def wsL_act_r4 : List Cond := [Cond.fieldLink RX3 33 "LadderClimb$Rig" "people" "I", Cond.methodLink RX3 29 yX2_stands, Cond.instanceMethod yX2_stands, Cond.selects RX2 yX2_stands yX2_stands, Cond.code yX2_stands cX2_stands 1 (some .boolean), Cond.methodLink RX2 69 yX2_leastForce, Cond.instanceMethod yX2_leastForce, Cond.selects RX2 yX2_leastForce yX2_leastForce, Cond.code yX2_leastForce cX2_leastForce 1 (some .int), Cond.methodLink RX2 75 Lib.Math.max.name, Cond.static Lib.Math.max.name, Cond.code Lib.Math.max.name Lib.Math.max.code 2 (some .int), Cond.methodLink RX2 82 yX2_leastByWall, Cond.instanceMethod yX2_leastByWall, Cond.selects RX2 yX2_leastByWall yX2_leastByWall, Cond.code yX2_leastByWall cX2_leastByWall 3 (some .int), Cond.methodLink RX2 63 yX2_wallPercents, Cond.instanceMethod yX2_wallPercents, Cond.selects RX2 yX2_wallPercents yX2_wallPercents, Cond.code yX2_wallPercents cX2_wallPercents 1 (some .int), Cond.methodLink RX2 47 yX2_moment, Cond.instanceMethod yX2_moment, Cond.selects RX2 yX2_moment yX2_moment, Cond.code yX2_moment cX2_moment 3 (some .int)]
def wsL_act_r5 : List Cond := [Cond.methodLink RX2 88 yJ9_floorDiv_7cf53, Cond.static yJ9_floorDiv_7cf53, Cond.initialized RJ9, Cond.code yJ9_floorDiv_7cf53 cJ9_floorDiv_7cf53 3 (some .int), Cond.methodLink RX2 85 yX2_leastByGround, Cond.instanceMethod yX2_leastByGround, Cond.selects RX2 yX2_leastByGround yX2_leastByGround, Cond.code yX2_leastByGround cX2_leastByGround 3 (some .int), Cond.methodLink RX2 66 yX2_groundPercents, Cond.instanceMethod yX2_groundPercents, Cond.selects RX2 yX2_groundPercents yX2_groundPercents, Cond.code yX2_groundPercents cX2_groundPercents 1 (some .int), Cond.methodLink RX2 55 yX2_load, Cond.instanceMethod yX2_load, Cond.selects RX2 yX2_load yX2_load, Cond.code yX2_load cX2_load 3 (some .int), Cond.methodLink RX2 72 yX2_greatestForce, Cond.instanceMethod yX2_greatestForce, Cond.selects RX2 yX2_greatestForce yX2_greatestForce, Cond.code yX2_greatestForce cX2_greatestForce 3 (some .int), Cond.methodLink RX3 39 yX3_fall, Cond.instanceMethod yX3_fall, Cond.selects RX3 yX3_fall yX3_fall, Cond.code yX3_fall cX3_fall 2 none]
def wsL_act_r6 : List Cond := [Cond.fieldLink RX3 36 "LadderClimb$Rig" "falls" "I", Cond.methodLink RX3 42 yX2_removeAll, Cond.instanceMethod yX2_removeAll, Cond.selects RX2 yX2_removeAll yX2_removeAll, Cond.code yX2_removeAll cX2_removeAll 2 none, Cond.methodLink RL 14 yX5_kinds, Cond.instanceMethod yX5_kinds, Cond.selects RX5 yX5_kinds yX5_kinds, Cond.code yX5_kinds cX5_kinds 5 (some .int), Cond.fieldLink RX5 63 "LadderClimb$Rig" "ground" "I", Cond.fieldLink RX5 66 "LadderClimb$Rig" "wall" "I", Cond.methodLink RL 18 yX5_rope, Cond.instanceMethod yX5_rope, Cond.selects RX5 yX5_rope yX5_rope, Cond.code yX5_rope cX5_rope 4 (some .int), Cond.fieldLink RX5 69 "LadderClimb$Rig" "rope" "I", Cond.methodLink RL 22 yX5_on, Cond.instanceMethod yX5_on, Cond.selects RX5 yX5_on yX5_on, Cond.code yX5_on cX5_on 4 (some .int), Cond.classLink RX5 76 "java/lang/IllegalStateException", Cond.initialized "java/lang/IllegalStateException", Cond.fieldLink RX5 87 "LadderClimb$Rig" "people" "I", Cond.methodLink RX5 72 yX2_isFull]
def wsL_act_r7 : List Cond := [Cond.instanceMethod yX2_isFull, Cond.selects RX2 yX2_isFull yX2_isFull, Cond.code yX2_isFull cX2_isFull 1 (some .boolean), Cond.methodLink RX5 83 yX2_add, Cond.instanceMethod yX2_add, Cond.selects RX2 yX2_add yX2_add, Cond.code yX2_add cX2_add 2 none, Cond.methodLink RL 25 yX5_off, Cond.instanceMethod yX5_off, Cond.selects RX5 yX5_off yX5_off, Cond.code yX5_off cX5_off 4 (some .int), Cond.methodLink RX5 90 yX5_demandPerson, Cond.static yX5_demandPerson, Cond.code yX5_demandPerson cX5_demandPerson 2 none, Cond.methodLink RX5 289 yX2_bears, Cond.instanceMethod yX2_bears, Cond.selects RX2 yX2_bears yX2_bears, Cond.code yX2_bears cX2_bears 2 (some .boolean), Cond.methodLink RX5 94 yX2_remove, Cond.instanceMethod yX2_remove, Cond.selects RX2 yX2_remove yX2_remove, Cond.code yX2_remove cX2_remove 3 none, Cond.methodLink RX2 43 yX2_bears, Cond.methodLink RL 28 yX5_climb]
def wsL_act_r8 : List Cond := [Cond.instanceMethod yX5_climb, Cond.selects RX5 yX5_climb yX5_climb, Cond.code yX5_climb cX5_climb 5 (some .int), Cond.methodLink RX5 97 yX3_walk, Cond.instanceMethod yX3_walk, Cond.selects RX3 yX3_walk yX3_walk, Cond.code yX3_walk cX3_walk 8 (some .int), Cond.methodLink RX3 49 Lib.Math.abs.name, Cond.static Lib.Math.abs.name, Cond.code Lib.Math.abs.name Lib.Math.abs.code 1 (some .int), Cond.methodLink RX3 45 yX2_stepOf, Cond.instanceMethod yX2_stepOf, Cond.selects RX2 yX2_stepOf yX2_stepOf, Cond.code yX2_stepOf cX2_stepOf 2 (some .int), Cond.methodLink RX3 54 yX2_setStep, Cond.instanceMethod yX2_setStep, Cond.selects RX2 yX2_setStep yX2_setStep, Cond.code yX2_setStep cX2_setStep 3 none]
def wsL_act : List Cond := .code yL_act cL_act 7 (some .int) :: ((wsL_act_r1 ++ (wsL_act_r2 ++ (wsL_act_r3 ++ (wsL_act_r4 ++ (wsL_act_r5 ++ (wsL_act_r6 ++ (wsL_act_r7 ++ wsL_act_r8))))))) ++ wsX50 ++ wsX20 ++ wsX30 ++ wsX00 ++ (vx_atS RX5 284 "java/lang/IndexOutOfBoundsException" ["java/lang/RuntimeException", "java/lang/Exception"]).filter goodWord ++ (vx_atS RX5 122 "java/lang/IllegalArgumentException" ["java/lang/RuntimeException", "java/lang/Exception"]).filter goodWord ++ (vx_atS RX5 80 "java/lang/IllegalStateException" ["java/lang/RuntimeException", "java/lang/Exception"]).filter goodWord)
def wsL_areAlike_r1 : List Cond := [Cond.methodLink RL 46 yX5_count, Cond.instanceMethod yX5_count, Cond.selects RX5 yX5_count yX5_count, Cond.initialized RX5, Cond.code yX5_count cX5_count 2 (some .int), Cond.classLink RX5 118 "java/lang/IllegalArgumentException", Cond.initialized "java/lang/IllegalArgumentException", Cond.fieldLink RX5 10 "LadderClimb" "site" "LLadderClimb$Site;", Cond.fieldLink RX5 193 "LadderClimb$Site" "fallen" "I", Cond.fieldLink RX5 196 "LadderClimb$Site" "climbed" "I", Cond.fieldLink RX5 19 "LadderClimb" "history" "LLadderClimb$History;", Cond.fieldLink RX5 137 "LadderClimb$History" "size" "I", Cond.methodLink RX5 186 yX3_standing, Cond.instanceMethod yX3_standing, Cond.selects RX3 yX3_standing yX3_standing, Cond.initialized RX3, Cond.code yX3_standing cX3_standing 3 (some .int), Cond.fieldLink RX3 11 "LadderClimb$Site" "rigs" "[LLadderClimb$Rig;", Cond.methodLink RX3 29 yX2_stands, Cond.instanceMethod yX2_stands, Cond.selects RX2 yX2_stands yX2_stands, Cond.initialized RX2, Cond.code yX2_stands cX2_stands 1 (some .boolean), Cond.methodLink RX2 69 yX2_leastForce]
def wsL_areAlike_r2 : List Cond := [Cond.instanceMethod yX2_leastForce, Cond.selects RX2 yX2_leastForce yX2_leastForce, Cond.code yX2_leastForce cX2_leastForce 1 (some .int), Cond.methodLink RX2 75 Lib.Math.max.name, Cond.static Lib.Math.max.name, Cond.initialized "java/lang/Math", Cond.code Lib.Math.max.name Lib.Math.max.code 2 (some .int), Cond.methodLink RX2 82 yX2_leastByWall, Cond.instanceMethod yX2_leastByWall, Cond.selects RX2 yX2_leastByWall yX2_leastByWall, Cond.code yX2_leastByWall cX2_leastByWall 3 (some .int), Cond.fieldLink RX2 24 "LadderClimb$Rig" "wall" "I", Cond.fieldLink RX2 15 "LadderClimb$Rig" "height" "I", Cond.fieldLink RX2 9 "LadderClimb$Rig" "base" "I", Cond.methodLink RX2 63 yX2_wallPercents, Cond.instanceMethod yX2_wallPercents, Cond.selects RX2 yX2_wallPercents yX2_wallPercents, Cond.code yX2_wallPercents cX2_wallPercents 1 (some .int), Cond.methodLink RX2 47 yX2_moment, Cond.instanceMethod yX2_moment, Cond.selects RX2 yX2_moment yX2_moment, Cond.code yX2_moment cX2_moment 3 (some .int), Cond.fieldLink RX2 18 "LadderClimb$Rig" "weight" "I", Cond.fieldLink RX2 40 "LadderClimb$Rig" "steps" "[I"]
def wsL_areAlike_r3 : List Cond := [Cond.fieldLink RX2 36 "LadderClimb$Rig" "weights" "[I", Cond.methodLink RX2 88 yJ9_floorDiv_7cf53, Cond.static yJ9_floorDiv_7cf53, Cond.initialized RJ9, Cond.code yJ9_floorDiv_7cf53 cJ9_floorDiv_7cf53 3 (some .int), Cond.methodLink RX2 85 yX2_leastByGround, Cond.instanceMethod yX2_leastByGround, Cond.selects RX2 yX2_leastByGround yX2_leastByGround, Cond.code yX2_leastByGround cX2_leastByGround 3 (some .int), Cond.fieldLink RX2 27 "LadderClimb$Rig" "rope" "I", Cond.methodLink RX2 66 yX2_groundPercents, Cond.instanceMethod yX2_groundPercents, Cond.selects RX2 yX2_groundPercents yX2_groundPercents, Cond.code yX2_groundPercents cX2_groundPercents 1 (some .int), Cond.fieldLink RX2 21 "LadderClimb$Rig" "ground" "I", Cond.methodLink RX2 55 yX2_load, Cond.instanceMethod yX2_load, Cond.selects RX2 yX2_load yX2_load, Cond.code yX2_load cX2_load 3 (some .int), Cond.methodLink RX2 72 yX2_greatestForce, Cond.instanceMethod yX2_greatestForce, Cond.selects RX2 yX2_greatestForce yX2_greatestForce, Cond.code yX2_greatestForce cX2_greatestForce 3 (some .int), Cond.methodLink RX5 189 yX3_people]
def wsL_areAlike_r4 : List Cond := [Cond.instanceMethod yX3_people, Cond.selects RX3 yX3_people yX3_people, Cond.code yX3_people cX3_people 3 (some .int), Cond.fieldLink RX3 33 "LadderClimb$Rig" "people" "I", Cond.methodLink RX5 191 yX3_falls, Cond.instanceMethod yX3_falls, Cond.selects RX3 yX3_falls yX3_falls, Cond.code yX3_falls cX3_falls 3 (some .int), Cond.fieldLink RX3 36 "LadderClimb$Rig" "falls" "I", Cond.methodLink RL 50 yX5_ladder, Cond.instanceMethod yX5_ladder, Cond.selects RX5 yX5_ladder yX5_ladder, Cond.code yX5_ladder cX5_ladder 4 (some .int), Cond.fieldLink RX5 49 "LadderClimb$Rig" "base" "I", Cond.fieldLink RX5 53 "LadderClimb$Rig" "height" "I", Cond.fieldLink RX5 56 "LadderClimb$Rig" "weight" "I", Cond.fieldLink RX5 63 "LadderClimb$Rig" "ground" "I", Cond.fieldLink RX5 66 "LadderClimb$Rig" "wall" "I", Cond.fieldLink RX5 69 "LadderClimb$Rig" "rope" "I", Cond.fieldLink RX5 87 "LadderClimb$Rig" "people" "I", Cond.fieldLink RX5 151 "LadderClimb$Rig" "falls" "I", Cond.methodLink RX5 37 yX5_rigOf, Cond.instanceMethod yX5_rigOf, Cond.selects RX5 yX5_rigOf yX5_rigOf]
def wsL_areAlike_r5 : List Cond := [Cond.code yX5_rigOf cX5_rigOf 2 (some (.object "LadderClimb$Rig")), Cond.classLink RX5 280 "java/lang/IndexOutOfBoundsException", Cond.initialized "java/lang/IndexOutOfBoundsException", Cond.fieldLink RX5 285 "LadderClimb$Site" "rigs" "[LLadderClimb$Rig;", Cond.methodLink RX5 145 yX2_load, Cond.methodLink RX5 148 yX2_moment, Cond.methodLink RX5 154 yX2_stands, Cond.methodLink RL 53 yX5_person, Cond.instanceMethod yX5_person, Cond.selects RX5 yX5_person yX5_person, Cond.code yX5_person cX5_person 5 (some .int), Cond.methodLink RX5 90 yX5_demandPerson, Cond.static yX5_demandPerson, Cond.code yX5_demandPerson cX5_demandPerson 2 none, Cond.methodLink RX5 289 yX2_bears, Cond.instanceMethod yX2_bears, Cond.selects RX2 yX2_bears yX2_bears, Cond.code yX2_bears cX2_bears 2 (some .boolean), Cond.fieldLink RX2 33 "LadderClimb$Rig" "people" "I", Cond.methodLink RX5 159 yX2_weightOf, Cond.instanceMethod yX2_weightOf, Cond.selects RX2 yX2_weightOf yX2_weightOf, Cond.code yX2_weightOf cX2_weightOf 2 (some .int), Cond.methodLink RX2 43 yX2_bears]
def wsL_areAlike_r6 : List Cond := [Cond.methodLink RX5 163 yX2_stepOf, Cond.instanceMethod yX2_stepOf, Cond.selects RX2 yX2_stepOf yX2_stepOf, Cond.code yX2_stepOf cX2_stepOf 2 (some .int)]
def wsL_areAlike : List Cond := .code yL_areAlike cL_areAlike 5 (some .boolean) :: ((wsL_areAlike_r1 ++ (wsL_areAlike_r2 ++ (wsL_areAlike_r3 ++ (wsL_areAlike_r4 ++ (wsL_areAlike_r5 ++ wsL_areAlike_r6))))) ++ wsX50 ++ wsX30 ++ wsX00 ++ wsX20 ++ (vx_atS RX5 122 "java/lang/IllegalArgumentException" ["java/lang/RuntimeException", "java/lang/Exception"]).filter goodWord ++ (vx_atS RX5 284 "java/lang/IndexOutOfBoundsException" ["java/lang/RuntimeException", "java/lang/Exception"]).filter goodWord)
def wsL_isLadderSo_r1 : List Cond := [Cond.methodLink RL 56 yX5_force, Cond.instanceMethod yX5_force, Cond.selects RX5 yX5_force yX5_force, Cond.initialized RX5, Cond.code yX5_force cX5_force 4 (some .int), Cond.methodLink RX5 37 yX5_rigOf, Cond.instanceMethod yX5_rigOf, Cond.selects RX5 yX5_rigOf yX5_rigOf, Cond.code yX5_rigOf cX5_rigOf 2 (some (.object "LadderClimb$Rig")), Cond.classLink RX5 280 "java/lang/IndexOutOfBoundsException", Cond.initialized "java/lang/IndexOutOfBoundsException", Cond.fieldLink RX5 10 "LadderClimb" "site" "LLadderClimb$Site;", Cond.fieldLink RX5 285 "LadderClimb$Site" "rigs" "[LLadderClimb$Rig;", Cond.methodLink RX5 41 yX5_demandRange, Cond.static yX5_demandRange, Cond.code yX5_demandRange cX5_demandRange 3 none, Cond.classLink RX5 118 "java/lang/IllegalArgumentException", Cond.initialized "java/lang/IllegalArgumentException", Cond.methodLink RX5 168 yX2_forces, Cond.instanceMethod yX2_forces, Cond.selects RX2 yX2_forces yX2_forces, Cond.initialized RX2, Cond.code yX2_forces cX2_forces 1 (some .int), Cond.methodLink RX2 75 Lib.Math.max.name]
def wsL_isLadderSo_r2 : List Cond := [Cond.static Lib.Math.max.name, Cond.initialized "java/lang/Math", Cond.code Lib.Math.max.name Lib.Math.max.code 2 (some .int), Cond.methodLink RX2 72 yX2_greatestForce, Cond.instanceMethod yX2_greatestForce, Cond.selects RX2 yX2_greatestForce yX2_greatestForce, Cond.code yX2_greatestForce cX2_greatestForce 3 (some .int), Cond.fieldLink RX2 15 "LadderClimb$Rig" "height" "I", Cond.fieldLink RX2 9 "LadderClimb$Rig" "base" "I", Cond.methodLink RX2 63 yX2_wallPercents, Cond.instanceMethod yX2_wallPercents, Cond.selects RX2 yX2_wallPercents yX2_wallPercents, Cond.code yX2_wallPercents cX2_wallPercents 1 (some .int), Cond.fieldLink RX2 24 "LadderClimb$Rig" "wall" "I", Cond.methodLink RX2 47 yX2_moment, Cond.instanceMethod yX2_moment, Cond.selects RX2 yX2_moment yX2_moment, Cond.code yX2_moment cX2_moment 3 (some .int), Cond.fieldLink RX2 18 "LadderClimb$Rig" "weight" "I", Cond.fieldLink RX2 40 "LadderClimb$Rig" "steps" "[I", Cond.fieldLink RX2 36 "LadderClimb$Rig" "weights" "[I", Cond.methodLink RX2 88 yJ9_floorDiv_7cf53, Cond.static yJ9_floorDiv_7cf53, Cond.initialized RJ9]
def wsL_isLadderSo_r3 : List Cond := [Cond.code yJ9_floorDiv_7cf53 cJ9_floorDiv_7cf53 3 (some .int), Cond.methodLink RX2 69 yX2_leastForce, Cond.instanceMethod yX2_leastForce, Cond.selects RX2 yX2_leastForce yX2_leastForce, Cond.code yX2_leastForce cX2_leastForce 1 (some .int), Cond.methodLink RX2 82 yX2_leastByWall, Cond.instanceMethod yX2_leastByWall, Cond.selects RX2 yX2_leastByWall yX2_leastByWall, Cond.code yX2_leastByWall cX2_leastByWall 3 (some .int), Cond.methodLink RX2 85 yX2_leastByGround, Cond.instanceMethod yX2_leastByGround, Cond.selects RX2 yX2_leastByGround yX2_leastByGround, Cond.code yX2_leastByGround cX2_leastByGround 3 (some .int), Cond.fieldLink RX2 27 "LadderClimb$Rig" "rope" "I", Cond.methodLink RX2 66 yX2_groundPercents, Cond.instanceMethod yX2_groundPercents, Cond.selects RX2 yX2_groundPercents yX2_groundPercents, Cond.code yX2_groundPercents cX2_groundPercents 1 (some .int), Cond.fieldLink RX2 21 "LadderClimb$Rig" "ground" "I", Cond.methodLink RX2 55 yX2_load, Cond.instanceMethod yX2_load, Cond.selects RX2 yX2_load yX2_load, Cond.code yX2_load cX2_load 3 (some .int), Cond.methodLink RX5 154 yX2_stands]
def wsL_isLadderSo_r4 : List Cond := [Cond.instanceMethod yX2_stands, Cond.selects RX2 yX2_stands yX2_stands, Cond.code yX2_stands cX2_stands 1 (some .boolean), Cond.methodLink RX5 171 yX2_leastForce, Cond.methodLink RX5 174 yX2_greatestForce, Cond.methodLink RX5 177 yX2_nearestForce, Cond.instanceMethod yX2_nearestForce, Cond.selects RX2 yX2_nearestForce yX2_nearestForce, Cond.code yX2_nearestForce cX2_nearestForce 1 (some .int), Cond.methodLink RX2 79 Lib.Math.min.name, Cond.static Lib.Math.min.name, Cond.code Lib.Math.min.name Lib.Math.min.code 2 (some .int), Cond.methodLink RX5 180 yX2_push, Cond.instanceMethod yX2_push, Cond.selects RX2 yX2_push yX2_push, Cond.code yX2_push cX2_push 2 (some .int), Cond.methodLink RX5 145 yX2_load, Cond.methodLink RL 50 yX5_ladder, Cond.instanceMethod yX5_ladder, Cond.selects RX5 yX5_ladder yX5_ladder, Cond.code yX5_ladder cX5_ladder 4 (some .int), Cond.fieldLink RX5 49 "LadderClimb$Rig" "base" "I", Cond.fieldLink RX5 53 "LadderClimb$Rig" "height" "I", Cond.fieldLink RX5 56 "LadderClimb$Rig" "weight" "I"]
def wsL_isLadderSo_r5 : List Cond := [Cond.fieldLink RX5 63 "LadderClimb$Rig" "ground" "I", Cond.fieldLink RX5 66 "LadderClimb$Rig" "wall" "I", Cond.fieldLink RX5 69 "LadderClimb$Rig" "rope" "I", Cond.fieldLink RX5 87 "LadderClimb$Rig" "people" "I", Cond.fieldLink RX5 151 "LadderClimb$Rig" "falls" "I", Cond.methodLink RX5 148 yX2_moment, Cond.methodLink RL 53 yX5_person, Cond.instanceMethod yX5_person, Cond.selects RX5 yX5_person yX5_person, Cond.code yX5_person cX5_person 5 (some .int), Cond.methodLink RX5 90 yX5_demandPerson, Cond.static yX5_demandPerson, Cond.code yX5_demandPerson cX5_demandPerson 2 none, Cond.methodLink RX5 289 yX2_bears, Cond.instanceMethod yX2_bears, Cond.selects RX2 yX2_bears yX2_bears, Cond.code yX2_bears cX2_bears 2 (some .boolean), Cond.fieldLink RX2 33 "LadderClimb$Rig" "people" "I", Cond.methodLink RX5 159 yX2_weightOf, Cond.instanceMethod yX2_weightOf, Cond.selects RX2 yX2_weightOf yX2_weightOf, Cond.code yX2_weightOf cX2_weightOf 2 (some .int), Cond.methodLink RX2 43 yX2_bears, Cond.methodLink RX5 163 yX2_stepOf]
def wsL_isLadderSo_r6 : List Cond := [Cond.instanceMethod yX2_stepOf, Cond.selects RX2 yX2_stepOf yX2_stepOf, Cond.code yX2_stepOf cX2_stepOf 2 (some .int), Cond.methodLink RL 59 yX5_held, Cond.instanceMethod yX5_held, Cond.selects RX5 yX5_held yX5_held, Cond.code yX5_held cX5_held 4 (some .int), Cond.methodLink RX5 183 yX2_whatGivesWay, Cond.instanceMethod yX2_whatGivesWay, Cond.selects RX2 yX2_whatGivesWay yX2_whatGivesWay, Cond.code yX2_whatGivesWay cX2_whatGivesWay 5 (some .int), Cond.methodLink RX2 58 Lib.Math.abs.name, Cond.static Lib.Math.abs.name, Cond.code Lib.Math.abs.name Lib.Math.abs.code 1 (some .int), Cond.methodLink RX2 51 yX2_push]
def wsL_isLadderSo : List Cond := .code yL_isLadderSo cL_isLadderSo 10 (some .boolean) :: ((wsL_isLadderSo_r1 ++ (wsL_isLadderSo_r2 ++ (wsL_isLadderSo_r3 ++ (wsL_isLadderSo_r4 ++ (wsL_isLadderSo_r5 ++ wsL_isLadderSo_r6))))) ++ wsX50 ++ wsX30 ++ wsX20 ++ (vx_atS RX5 284 "java/lang/IndexOutOfBoundsException" ["java/lang/RuntimeException", "java/lang/Exception"]).filter goodWord ++ (vx_atS RX5 122 "java/lang/IllegalArgumentException" ["java/lang/RuntimeException", "java/lang/Exception"]).filter goodWord)
def wsL_areTrialsSo_r1 : List Cond := [Cond.methodLink RL 62 yX5_neededRope, Cond.instanceMethod yX5_neededRope, Cond.selects RX5 yX5_neededRope yX5_neededRope, Cond.initialized RX5, Cond.code yX5_neededRope cX5_neededRope 3 (some .int), Cond.fieldLink RX5 33 "LadderClimb" "trial" "LLadderClimb$Rig;", Cond.fieldLink RX5 69 "LadderClimb$Rig" "rope" "I", Cond.methodLink RX5 37 yX5_rigOf, Cond.instanceMethod yX5_rigOf, Cond.selects RX5 yX5_rigOf yX5_rigOf, Cond.code yX5_rigOf cX5_rigOf 2 (some (.object "LadderClimb$Rig")), Cond.classLink RX5 280 "java/lang/IndexOutOfBoundsException", Cond.initialized "java/lang/IndexOutOfBoundsException", Cond.fieldLink RX5 10 "LadderClimb" "site" "LLadderClimb$Site;", Cond.fieldLink RX5 285 "LadderClimb$Site" "rigs" "[LLadderClimb$Rig;", Cond.methodLink RX5 201 yX2_copyFrom, Cond.instanceMethod yX2_copyFrom, Cond.selects RX2 yX2_copyFrom yX2_copyFrom, Cond.initialized RX2, Cond.code yX2_copyFrom cX2_copyFrom 3 none, Cond.fieldLink RX2 9 "LadderClimb$Rig" "base" "I", Cond.fieldLink RX2 15 "LadderClimb$Rig" "height" "I", Cond.fieldLink RX2 18 "LadderClimb$Rig" "weight" "I", Cond.fieldLink RX2 21 "LadderClimb$Rig" "ground" "I"]
def wsL_areTrialsSo_r2 : List Cond := [Cond.fieldLink RX2 24 "LadderClimb$Rig" "wall" "I", Cond.fieldLink RX2 27 "LadderClimb$Rig" "rope" "I", Cond.fieldLink RX2 30 "LadderClimb$Rig" "falls" "I", Cond.fieldLink RX2 33 "LadderClimb$Rig" "people" "I", Cond.fieldLink RX2 36 "LadderClimb$Rig" "weights" "[I", Cond.fieldLink RX2 40 "LadderClimb$Rig" "steps" "[I", Cond.methodLink RX5 154 yX2_stands, Cond.instanceMethod yX2_stands, Cond.selects RX2 yX2_stands yX2_stands, Cond.code yX2_stands cX2_stands 1 (some .boolean), Cond.methodLink RX2 69 yX2_leastForce, Cond.instanceMethod yX2_leastForce, Cond.selects RX2 yX2_leastForce yX2_leastForce, Cond.code yX2_leastForce cX2_leastForce 1 (some .int), Cond.methodLink RX2 75 Lib.Math.max.name, Cond.static Lib.Math.max.name, Cond.initialized "java/lang/Math", Cond.code Lib.Math.max.name Lib.Math.max.code 2 (some .int), Cond.methodLink RX2 82 yX2_leastByWall, Cond.instanceMethod yX2_leastByWall, Cond.selects RX2 yX2_leastByWall yX2_leastByWall, Cond.code yX2_leastByWall cX2_leastByWall 3 (some .int), Cond.methodLink RX2 63 yX2_wallPercents, Cond.instanceMethod yX2_wallPercents]
def wsL_areTrialsSo_r3 : List Cond := [Cond.selects RX2 yX2_wallPercents yX2_wallPercents, Cond.code yX2_wallPercents cX2_wallPercents 1 (some .int), Cond.methodLink RX2 47 yX2_moment, Cond.instanceMethod yX2_moment, Cond.selects RX2 yX2_moment yX2_moment, Cond.code yX2_moment cX2_moment 3 (some .int), Cond.methodLink RX2 88 yJ9_floorDiv_7cf53, Cond.static yJ9_floorDiv_7cf53, Cond.initialized RJ9, Cond.code yJ9_floorDiv_7cf53 cJ9_floorDiv_7cf53 3 (some .int), Cond.methodLink RX2 85 yX2_leastByGround, Cond.instanceMethod yX2_leastByGround, Cond.selects RX2 yX2_leastByGround yX2_leastByGround, Cond.code yX2_leastByGround cX2_leastByGround 3 (some .int), Cond.methodLink RX2 66 yX2_groundPercents, Cond.instanceMethod yX2_groundPercents, Cond.selects RX2 yX2_groundPercents yX2_groundPercents, Cond.code yX2_groundPercents cX2_groundPercents 1 (some .int), Cond.methodLink RX2 55 yX2_load, Cond.instanceMethod yX2_load, Cond.selects RX2 yX2_load yX2_load, Cond.code yX2_load cX2_load 3 (some .int), Cond.methodLink RX2 72 yX2_greatestForce, Cond.instanceMethod yX2_greatestForce]
def wsL_areTrialsSo_r4 : List Cond := [Cond.selects RX2 yX2_greatestForce yX2_greatestForce, Cond.code yX2_greatestForce cX2_greatestForce 3 (some .int), Cond.methodLink RL 65 yX5_walls, Cond.instanceMethod yX5_walls, Cond.selects RX5 yX5_walls yX5_walls, Cond.code yX5_walls cX5_walls 4 (some .int), Cond.fieldLink RX5 66 "LadderClimb$Rig" "wall" "I", Cond.methodLink RL 68 yX5_bestBase, Cond.instanceMethod yX5_bestBase, Cond.selects RX5 yX5_bestBase yX5_bestBase, Cond.code yX5_bestBase cX5_bestBase 6 (some .int), Cond.fieldLink RX5 49 "LadderClimb$Rig" "base" "I", Cond.methodLink RX5 168 yX2_forces, Cond.instanceMethod yX2_forces, Cond.selects RX2 yX2_forces yX2_forces, Cond.code yX2_forces cX2_forces 1 (some .int), Cond.methodLink RL 50 yX5_ladder, Cond.instanceMethod yX5_ladder, Cond.selects RX5 yX5_ladder yX5_ladder, Cond.code yX5_ladder cX5_ladder 4 (some .int), Cond.classLink RX5 118 "java/lang/IllegalArgumentException", Cond.initialized "java/lang/IllegalArgumentException", Cond.fieldLink RX5 53 "LadderClimb$Rig" "height" "I", Cond.fieldLink RX5 56 "LadderClimb$Rig" "weight" "I"]
def wsL_areTrialsSo_r5 : List Cond := [Cond.fieldLink RX5 63 "LadderClimb$Rig" "ground" "I", Cond.fieldLink RX5 87 "LadderClimb$Rig" "people" "I", Cond.fieldLink RX5 151 "LadderClimb$Rig" "falls" "I", Cond.methodLink RX5 145 yX2_load, Cond.methodLink RX5 148 yX2_moment, Cond.methodLink RL 71 yX5_riskiest, Cond.instanceMethod yX5_riskiest, Cond.selects RX5 yX5_riskiest yX5_riskiest, Cond.code yX5_riskiest cX5_riskiest 7 (some .int), Cond.methodLink RX5 94 yX2_remove, Cond.instanceMethod yX2_remove, Cond.selects RX2 yX2_remove yX2_remove, Cond.code yX2_remove cX2_remove 3 none, Cond.methodLink RX2 43 yX2_bears, Cond.instanceMethod yX2_bears, Cond.selects RX2 yX2_bears yX2_bears, Cond.code yX2_bears cX2_bears 2 (some .boolean), Cond.methodLink RL 74 yX5_highest, Cond.instanceMethod yX5_highest, Cond.selects RX5 yX5_highest yX5_highest, Cond.code yX5_highest cX5_highest 6 (some .int), Cond.methodLink RX5 90 yX5_demandPerson, Cond.static yX5_demandPerson, Cond.code yX5_demandPerson cX5_demandPerson 2 none]
def wsL_areTrialsSo_r6 : List Cond := [Cond.methodLink RX5 289 yX2_bears, Cond.methodLink RX5 163 yX2_stepOf, Cond.instanceMethod yX2_stepOf, Cond.selects RX2 yX2_stepOf yX2_stepOf, Cond.code yX2_stepOf cX2_stepOf 2 (some .int), Cond.methodLink RX5 205 yX2_setStep, Cond.instanceMethod yX2_setStep, Cond.selects RX2 yX2_setStep yX2_setStep, Cond.code yX2_setStep cX2_setStep 3 none, Cond.methodLink RL 53 yX5_person, Cond.instanceMethod yX5_person, Cond.selects RX5 yX5_person yX5_person, Cond.code yX5_person cX5_person 5 (some .int), Cond.methodLink RX5 159 yX2_weightOf, Cond.instanceMethod yX2_weightOf, Cond.selects RX2 yX2_weightOf yX2_weightOf, Cond.code yX2_weightOf cX2_weightOf 2 (some .int)]
def wsL_areTrialsSo : List Cond := .code yL_areTrialsSo cL_areTrialsSo 10 (some .boolean) :: ((wsL_areTrialsSo_r1 ++ (wsL_areTrialsSo_r2 ++ (wsL_areTrialsSo_r3 ++ (wsL_areTrialsSo_r4 ++ (wsL_areTrialsSo_r5 ++ wsL_areTrialsSo_r6))))) ++ wsX50 ++ wsX20 ++ wsX30 ++ (vx_atS RX5 284 "java/lang/IndexOutOfBoundsException" ["java/lang/RuntimeException", "java/lang/Exception"]).filter goodWord ++ (vx_atS RX5 122 "java/lang/IllegalArgumentException" ["java/lang/RuntimeException", "java/lang/Exception"]).filter goodWord)
def wsL_areSums_r1 : List Cond := [Cond.methodLink RL 50 yX5_ladder, Cond.instanceMethod yX5_ladder, Cond.selects RX5 yX5_ladder yX5_ladder, Cond.initialized RX5, Cond.code yX5_ladder cX5_ladder 4 (some .int), Cond.classLink RX5 118 "java/lang/IllegalArgumentException", Cond.initialized "java/lang/IllegalArgumentException", Cond.fieldLink RX5 49 "LadderClimb$Rig" "base" "I", Cond.fieldLink RX5 53 "LadderClimb$Rig" "height" "I", Cond.fieldLink RX5 56 "LadderClimb$Rig" "weight" "I", Cond.fieldLink RX5 63 "LadderClimb$Rig" "ground" "I", Cond.fieldLink RX5 66 "LadderClimb$Rig" "wall" "I", Cond.fieldLink RX5 69 "LadderClimb$Rig" "rope" "I", Cond.fieldLink RX5 87 "LadderClimb$Rig" "people" "I", Cond.fieldLink RX5 151 "LadderClimb$Rig" "falls" "I", Cond.methodLink RX5 37 yX5_rigOf, Cond.instanceMethod yX5_rigOf, Cond.selects RX5 yX5_rigOf yX5_rigOf, Cond.code yX5_rigOf cX5_rigOf 2 (some (.object "LadderClimb$Rig")), Cond.classLink RX5 280 "java/lang/IndexOutOfBoundsException", Cond.initialized "java/lang/IndexOutOfBoundsException", Cond.fieldLink RX5 10 "LadderClimb" "site" "LLadderClimb$Site;", Cond.fieldLink RX5 285 "LadderClimb$Site" "rigs" "[LLadderClimb$Rig;", Cond.methodLink RX5 145 yX2_load]
def wsL_areSums_r2 : List Cond := [Cond.instanceMethod yX2_load, Cond.selects RX2 yX2_load yX2_load, Cond.initialized RX2, Cond.code yX2_load cX2_load 3 (some .int), Cond.fieldLink RX2 18 "LadderClimb$Rig" "weight" "I", Cond.fieldLink RX2 36 "LadderClimb$Rig" "weights" "[I", Cond.methodLink RX5 148 yX2_moment, Cond.instanceMethod yX2_moment, Cond.selects RX2 yX2_moment yX2_moment, Cond.code yX2_moment cX2_moment 3 (some .int), Cond.fieldLink RX2 40 "LadderClimb$Rig" "steps" "[I", Cond.fieldLink RX2 9 "LadderClimb$Rig" "base" "I", Cond.methodLink RX5 154 yX2_stands, Cond.instanceMethod yX2_stands, Cond.selects RX2 yX2_stands yX2_stands, Cond.code yX2_stands cX2_stands 1 (some .boolean), Cond.methodLink RX2 69 yX2_leastForce, Cond.instanceMethod yX2_leastForce, Cond.selects RX2 yX2_leastForce yX2_leastForce, Cond.code yX2_leastForce cX2_leastForce 1 (some .int), Cond.methodLink RX2 75 Lib.Math.max.name, Cond.static Lib.Math.max.name, Cond.initialized "java/lang/Math", Cond.code Lib.Math.max.name Lib.Math.max.code 2 (some .int)]
def wsL_areSums_r3 : List Cond := [Cond.methodLink RX2 82 yX2_leastByWall, Cond.instanceMethod yX2_leastByWall, Cond.selects RX2 yX2_leastByWall yX2_leastByWall, Cond.code yX2_leastByWall cX2_leastByWall 3 (some .int), Cond.fieldLink RX2 24 "LadderClimb$Rig" "wall" "I", Cond.fieldLink RX2 15 "LadderClimb$Rig" "height" "I", Cond.methodLink RX2 63 yX2_wallPercents, Cond.instanceMethod yX2_wallPercents, Cond.selects RX2 yX2_wallPercents yX2_wallPercents, Cond.code yX2_wallPercents cX2_wallPercents 1 (some .int), Cond.methodLink RX2 47 yX2_moment, Cond.methodLink RX2 88 yJ9_floorDiv_7cf53, Cond.static yJ9_floorDiv_7cf53, Cond.initialized RJ9, Cond.code yJ9_floorDiv_7cf53 cJ9_floorDiv_7cf53 3 (some .int), Cond.methodLink RX2 85 yX2_leastByGround, Cond.instanceMethod yX2_leastByGround, Cond.selects RX2 yX2_leastByGround yX2_leastByGround, Cond.code yX2_leastByGround cX2_leastByGround 3 (some .int), Cond.fieldLink RX2 27 "LadderClimb$Rig" "rope" "I", Cond.methodLink RX2 66 yX2_groundPercents, Cond.instanceMethod yX2_groundPercents, Cond.selects RX2 yX2_groundPercents yX2_groundPercents, Cond.code yX2_groundPercents cX2_groundPercents 1 (some .int)]
def wsL_areSums_r4 : List Cond := [Cond.fieldLink RX2 21 "LadderClimb$Rig" "ground" "I", Cond.methodLink RX2 55 yX2_load, Cond.methodLink RX2 72 yX2_greatestForce, Cond.instanceMethod yX2_greatestForce, Cond.selects RX2 yX2_greatestForce yX2_greatestForce, Cond.code yX2_greatestForce cX2_greatestForce 3 (some .int), Cond.methodLink RL 53 yX5_person, Cond.instanceMethod yX5_person, Cond.selects RX5 yX5_person yX5_person, Cond.code yX5_person cX5_person 5 (some .int), Cond.methodLink RX5 90 yX5_demandPerson, Cond.static yX5_demandPerson, Cond.code yX5_demandPerson cX5_demandPerson 2 none, Cond.methodLink RX5 289 yX2_bears, Cond.instanceMethod yX2_bears, Cond.selects RX2 yX2_bears yX2_bears, Cond.code yX2_bears cX2_bears 2 (some .boolean), Cond.fieldLink RX2 33 "LadderClimb$Rig" "people" "I", Cond.methodLink RX5 159 yX2_weightOf, Cond.instanceMethod yX2_weightOf, Cond.selects RX2 yX2_weightOf yX2_weightOf, Cond.code yX2_weightOf cX2_weightOf 2 (some .int), Cond.methodLink RX2 43 yX2_bears, Cond.methodLink RX5 163 yX2_stepOf]
def wsL_areSums_r5 : List Cond := [Cond.instanceMethod yX2_stepOf, Cond.selects RX2 yX2_stepOf yX2_stepOf, Cond.code yX2_stepOf cX2_stepOf 2 (some .int), Cond.methodLink RL 46 yX5_count, Cond.instanceMethod yX5_count, Cond.selects RX5 yX5_count yX5_count, Cond.code yX5_count cX5_count 2 (some .int), Cond.fieldLink RX5 193 "LadderClimb$Site" "fallen" "I", Cond.fieldLink RX5 196 "LadderClimb$Site" "climbed" "I", Cond.fieldLink RX5 19 "LadderClimb" "history" "LLadderClimb$History;", Cond.fieldLink RX5 137 "LadderClimb$History" "size" "I", Cond.methodLink RX5 186 yX3_standing, Cond.instanceMethod yX3_standing, Cond.selects RX3 yX3_standing yX3_standing, Cond.initialized RX3, Cond.code yX3_standing cX3_standing 3 (some .int), Cond.fieldLink RX3 11 "LadderClimb$Site" "rigs" "[LLadderClimb$Rig;", Cond.methodLink RX3 29 yX2_stands, Cond.methodLink RX5 189 yX3_people, Cond.instanceMethod yX3_people, Cond.selects RX3 yX3_people yX3_people, Cond.code yX3_people cX3_people 3 (some .int), Cond.fieldLink RX3 33 "LadderClimb$Rig" "people" "I", Cond.methodLink RX5 191 yX3_falls]
def wsL_areSums_r6 : List Cond := [Cond.instanceMethod yX3_falls, Cond.selects RX3 yX3_falls yX3_falls, Cond.code yX3_falls cX3_falls 3 (some .int), Cond.fieldLink RX3 36 "LadderClimb$Rig" "falls" "I", Cond.methodLink RL 77 yX5_safety, Cond.instanceMethod yX5_safety, Cond.selects RX5 yX5_safety yX5_safety, Cond.code yX5_safety cX5_safety 3 (some .double)]
def wsL_areSums : List Cond := .code yL_areSums cL_areSums 8 (some .boolean) :: ((wsL_areSums_r1 ++ (wsL_areSums_r2 ++ (wsL_areSums_r3 ++ (wsL_areSums_r4 ++ (wsL_areSums_r5 ++ wsL_areSums_r6))))) ++ wsX20 ++ wsX50 ++ wsX30 ++ wsX00 ++ (vx_atS RX5 122 "java/lang/IllegalArgumentException" ["java/lang/RuntimeException", "java/lang/Exception"]).filter goodWord ++ (vx_atS RX5 284 "java/lang/IndexOutOfBoundsException" ["java/lang/RuntimeException", "java/lang/Exception"]).filter goodWord)
def wsL_law0_r1 : List Cond := [Cond.classLink RL 9 RX5, Cond.instantiable RX5 4, Cond.initialized RX5, Cond.arrayClass .int, Cond.methodLink RL 81 yX5_init, Cond.instanceMethod yX5_init, Cond.code yX5_init cX5_init 1 none, Cond.methodLink RX5 1 objectInit, Cond.instanceMethod objectInit, Cond.code objectInit ⟨#[0xb1]⟩ 1 none, Cond.classLink RX5 7 RX3, Cond.instantiable RX3 3, Cond.initialized RX3, Cond.fieldLink RX5 10 "LadderClimb" "site" "LLadderClimb$Site;", Cond.classLink RX5 16 RX0, Cond.instantiable RX0 3, Cond.initialized RX0, Cond.fieldLink RX5 19 "LadderClimb" "history" "LLadderClimb$History;", Cond.classLink RX5 23 RX4, Cond.instantiable RX4 4, Cond.initialized RX4, Cond.fieldLink RX5 26 "LadderClimb" "works" "LLadderClimb$Works;", Cond.classLink RX5 30 RX2, Cond.instantiable RX2 10]
def wsL_law0_r2 : List Cond := [Cond.initialized RX2, Cond.fieldLink RX5 33 "LadderClimb" "trial" "LLadderClimb$Rig;", Cond.methodLink RX5 9 yX3_init, Cond.instanceMethod yX3_init, Cond.code yX3_init cX3_init 2 none, Cond.methodLink RX3 3 objectInit, Cond.classLink RX3 9 RX2, Cond.fieldLink RX3 11 "LadderClimb$Site" "rigs" "[LLadderClimb$Rig;", Cond.fieldLink RX3 17 "LadderClimb$Site" "fallen" "I", Cond.fieldLink RX3 21 "LadderClimb$Site" "climbed" "I", Cond.instanceMethod yX2_init, Cond.code yX2_init cX2_init 1 none, Cond.methodLink RX2 3 objectInit, Cond.fieldLink RX2 9 "LadderClimb$Rig" "base" "I", Cond.fieldLink RX2 15 "LadderClimb$Rig" "height" "I", Cond.fieldLink RX2 18 "LadderClimb$Rig" "weight" "I", Cond.fieldLink RX2 21 "LadderClimb$Rig" "ground" "I", Cond.fieldLink RX2 24 "LadderClimb$Rig" "wall" "I", Cond.fieldLink RX2 27 "LadderClimb$Rig" "rope" "I", Cond.fieldLink RX2 30 "LadderClimb$Rig" "falls" "I", Cond.fieldLink RX2 33 "LadderClimb$Rig" "people" "I", Cond.fieldLink RX2 36 "LadderClimb$Rig" "weights" "[I", Cond.fieldLink RX2 40 "LadderClimb$Rig" "steps" "[I", Cond.methodLink RX5 18 yX0_init]
def wsL_law0_r3 : List Cond := [Cond.instanceMethod yX0_init, Cond.code yX0_init cX0_init 2 none, Cond.methodLink RX0 3 objectInit, Cond.classLink RX0 9 RX3, Cond.fieldLink RX0 11 "LadderClimb$History" "saved" "[LLadderClimb$Site;", Cond.fieldLink RX0 17 "LadderClimb$History" "next" "I", Cond.fieldLink RX0 21 "LadderClimb$History" "size" "I", Cond.methodLink RX0 24 yX3_init, Cond.instanceMethod yX4_init, Cond.code yX4_init cX4_init 1 none, Cond.methodLink RX4 3 objectInit, Cond.fieldLink RX4 9 "LadderClimb$Works" "codes" "[I", Cond.fieldLink RX4 15 "LadderClimb$Works" "length" "I", Cond.fieldLink RX4 19 "LadderClimb$Works" "cursor" "I", Cond.classLink RX4 22 RX1, Cond.instantiable RX1 6, Cond.initialized RX1, Cond.fieldLink RX4 25 "LadderClimb$Works" "reader" "LLadderClimb$Reader;", Cond.instanceMethod yX1_init, Cond.code yX1_init cX1_init 1 none, Cond.methodLink RX1 3 objectInit, Cond.fieldLink RX1 11 "LadderClimb$Reader" "place" "I", Cond.fieldLink RX1 15 "LadderClimb$Reader" "least" "I", Cond.fieldLink RX1 18 "LadderClimb$Reader" "most" "I"]
def wsL_law0_r4 : List Cond := [Cond.fieldLink RX1 21 "LadderClimb$Reader" "ladder" "I", Cond.fieldLink RX1 24 "LadderClimb$Reader" "work" "I", Cond.fieldLink RX1 27 "LadderClimb$Reader" "number" "I", Cond.methodLink RL 82 yL_cell, Cond.static yL_cell, Cond.initialized RL, Cond.code yL_cell cL_cell 2 (some .int), Cond.methodLink RL 46 yX5_count, Cond.instanceMethod yX5_count, Cond.selects RX5 yX5_count yX5_count, Cond.code yX5_count cX5_count 2 (some .int), Cond.classLink RX5 118 "java/lang/IllegalArgumentException", Cond.initialized "java/lang/IllegalArgumentException", Cond.fieldLink RX5 193 "LadderClimb$Site" "fallen" "I", Cond.fieldLink RX5 196 "LadderClimb$Site" "climbed" "I", Cond.fieldLink RX5 137 "LadderClimb$History" "size" "I", Cond.methodLink RX5 186 yX3_standing, Cond.instanceMethod yX3_standing, Cond.selects RX3 yX3_standing yX3_standing, Cond.code yX3_standing cX3_standing 3 (some .int), Cond.methodLink RX3 29 yX2_stands, Cond.instanceMethod yX2_stands, Cond.selects RX2 yX2_stands yX2_stands, Cond.code yX2_stands cX2_stands 1 (some .boolean)]
def wsL_law0_r5 : List Cond := [Cond.methodLink RX2 69 yX2_leastForce, Cond.instanceMethod yX2_leastForce, Cond.selects RX2 yX2_leastForce yX2_leastForce, Cond.code yX2_leastForce cX2_leastForce 1 (some .int), Cond.methodLink RX2 75 Lib.Math.max.name, Cond.static Lib.Math.max.name, Cond.initialized "java/lang/Math", Cond.code Lib.Math.max.name Lib.Math.max.code 2 (some .int), Cond.methodLink RX2 82 yX2_leastByWall, Cond.instanceMethod yX2_leastByWall, Cond.selects RX2 yX2_leastByWall yX2_leastByWall, Cond.code yX2_leastByWall cX2_leastByWall 3 (some .int), Cond.methodLink RX2 63 yX2_wallPercents, Cond.instanceMethod yX2_wallPercents, Cond.selects RX2 yX2_wallPercents yX2_wallPercents, Cond.code yX2_wallPercents cX2_wallPercents 1 (some .int), Cond.methodLink RX2 47 yX2_moment, Cond.instanceMethod yX2_moment, Cond.selects RX2 yX2_moment yX2_moment, Cond.code yX2_moment cX2_moment 3 (some .int), Cond.methodLink RX2 88 yJ9_floorDiv_7cf53, Cond.static yJ9_floorDiv_7cf53, Cond.initialized RJ9, Cond.code yJ9_floorDiv_7cf53 cJ9_floorDiv_7cf53 3 (some .int)]
def wsL_law0_r6 : List Cond := [Cond.methodLink RX2 85 yX2_leastByGround, Cond.instanceMethod yX2_leastByGround, Cond.selects RX2 yX2_leastByGround yX2_leastByGround, Cond.code yX2_leastByGround cX2_leastByGround 3 (some .int), Cond.methodLink RX2 66 yX2_groundPercents, Cond.instanceMethod yX2_groundPercents, Cond.selects RX2 yX2_groundPercents yX2_groundPercents, Cond.code yX2_groundPercents cX2_groundPercents 1 (some .int), Cond.methodLink RX2 55 yX2_load, Cond.instanceMethod yX2_load, Cond.selects RX2 yX2_load yX2_load, Cond.code yX2_load cX2_load 3 (some .int), Cond.methodLink RX2 72 yX2_greatestForce, Cond.instanceMethod yX2_greatestForce, Cond.selects RX2 yX2_greatestForce yX2_greatestForce, Cond.code yX2_greatestForce cX2_greatestForce 3 (some .int), Cond.methodLink RX5 189 yX3_people, Cond.instanceMethod yX3_people, Cond.selects RX3 yX3_people yX3_people, Cond.code yX3_people cX3_people 3 (some .int), Cond.fieldLink RX3 33 "LadderClimb$Rig" "people" "I", Cond.methodLink RX5 191 yX3_falls, Cond.instanceMethod yX3_falls, Cond.selects RX3 yX3_falls yX3_falls]
def wsL_law0_r7 : List Cond := [Cond.code yX3_falls cX3_falls 3 (some .int), Cond.fieldLink RX3 36 "LadderClimb$Rig" "falls" "I", Cond.methodLink RL 86 yL_act, Cond.static yL_act, Cond.code yL_act cL_act 7 (some .int), Cond.methodLink RL 37 yL_low, Cond.static yL_low, Cond.code yL_low cL_low 2 (some .int), Cond.constant RL 7 (2147483647), Cond.methodLink RL 42 yL_changes, Cond.static yL_changes, Cond.codeWith yL_changes cL_changes 7 (some .int) [(0, 90, 93, 31), (0, 90, 97, 33), (0, 90, 101, 35)], Cond.classLink RL 31 "java/lang/IndexOutOfBoundsException", Cond.classLink RL 33 "java/lang/IllegalArgumentException", Cond.classLink RL 35 "java/lang/IllegalStateException", Cond.methodLink RL 8 yX5_put, Cond.instanceMethod yX5_put, Cond.selects RX5 yX5_put yX5_put, Cond.code yX5_put cX5_put 6 (some .int), Cond.fieldLink RX5 49 "LadderClimb$Rig" "base" "I", Cond.fieldLink RX5 53 "LadderClimb$Rig" "height" "I", Cond.fieldLink RX5 56 "LadderClimb$Rig" "weight" "I", Cond.methodLink RX5 37 yX5_rigOf, Cond.instanceMethod yX5_rigOf]
def wsL_law0_r8 : List Cond := [Cond.selects RX5 yX5_rigOf yX5_rigOf, Cond.code yX5_rigOf cX5_rigOf 2 (some (.object "LadderClimb$Rig")), Cond.classLink RX5 280 "java/lang/IndexOutOfBoundsException", Cond.initialized "java/lang/IndexOutOfBoundsException", Cond.fieldLink RX5 285 "LadderClimb$Site" "rigs" "[LLadderClimb$Rig;", Cond.methodLink RX5 41 yX5_demandRange, Cond.static yX5_demandRange, Cond.code yX5_demandRange cX5_demandRange 3 none, Cond.methodLink RX5 45 yX0_save, Cond.instanceMethod yX0_save, Cond.selects RX0 yX0_save yX0_save, Cond.code yX0_save cX0_save 2 none, Cond.methodLink RX0 29 Lib.Math.min.name, Cond.static Lib.Math.min.name, Cond.code Lib.Math.min.name Lib.Math.min.code 2 (some .int), Cond.methodLink RX0 25 yX3_copyFrom, Cond.instanceMethod yX3_copyFrom, Cond.selects RX3 yX3_copyFrom yX3_copyFrom, Cond.code yX3_copyFrom cX3_copyFrom 3 none, Cond.methodLink RX3 25 yX2_copyFrom, Cond.instanceMethod yX2_copyFrom, Cond.selects RX2 yX2_copyFrom yX2_copyFrom, Cond.code yX2_copyFrom cX2_copyFrom 3 none, Cond.methodLink RX5 59 yX3_fallsNow]
def wsL_law0_r9 : List Cond := [Cond.instanceMethod yX3_fallsNow, Cond.selects RX3 yX3_fallsNow yX3_fallsNow, Cond.code yX3_fallsNow cX3_fallsNow 2 (some .boolean), Cond.methodLink RX3 39 yX3_fall, Cond.instanceMethod yX3_fall, Cond.selects RX3 yX3_fall yX3_fall, Cond.code yX3_fall cX3_fall 2 none, Cond.methodLink RX3 42 yX2_removeAll, Cond.instanceMethod yX2_removeAll, Cond.selects RX2 yX2_removeAll yX2_removeAll, Cond.code yX2_removeAll cX2_removeAll 2 none, Cond.methodLink RL 14 yX5_kinds, Cond.instanceMethod yX5_kinds, Cond.selects RX5 yX5_kinds yX5_kinds, Cond.code yX5_kinds cX5_kinds 5 (some .int), Cond.fieldLink RX5 63 "LadderClimb$Rig" "ground" "I", Cond.fieldLink RX5 66 "LadderClimb$Rig" "wall" "I", Cond.methodLink RL 18 yX5_rope, Cond.instanceMethod yX5_rope, Cond.selects RX5 yX5_rope yX5_rope, Cond.code yX5_rope cX5_rope 4 (some .int), Cond.fieldLink RX5 69 "LadderClimb$Rig" "rope" "I", Cond.methodLink RL 22 yX5_on, Cond.instanceMethod yX5_on]
def wsL_law0_r10 : List Cond := [Cond.selects RX5 yX5_on yX5_on, Cond.code yX5_on cX5_on 4 (some .int), Cond.classLink RX5 76 "java/lang/IllegalStateException", Cond.initialized "java/lang/IllegalStateException", Cond.fieldLink RX5 87 "LadderClimb$Rig" "people" "I", Cond.methodLink RX5 72 yX2_isFull, Cond.instanceMethod yX2_isFull, Cond.selects RX2 yX2_isFull yX2_isFull, Cond.code yX2_isFull cX2_isFull 1 (some .boolean), Cond.methodLink RX5 83 yX2_add, Cond.instanceMethod yX2_add, Cond.selects RX2 yX2_add yX2_add, Cond.code yX2_add cX2_add 2 none, Cond.methodLink RL 25 yX5_off, Cond.instanceMethod yX5_off, Cond.selects RX5 yX5_off yX5_off, Cond.code yX5_off cX5_off 4 (some .int), Cond.methodLink RX5 90 yX5_demandPerson, Cond.static yX5_demandPerson, Cond.code yX5_demandPerson cX5_demandPerson 2 none, Cond.methodLink RX5 289 yX2_bears, Cond.instanceMethod yX2_bears, Cond.selects RX2 yX2_bears yX2_bears, Cond.code yX2_bears cX2_bears 2 (some .boolean)]
def wsL_law0_r11 : List Cond := [Cond.methodLink RX5 94 yX2_remove, Cond.instanceMethod yX2_remove, Cond.selects RX2 yX2_remove yX2_remove, Cond.code yX2_remove cX2_remove 3 none, Cond.methodLink RX2 43 yX2_bears, Cond.methodLink RL 28 yX5_climb, Cond.instanceMethod yX5_climb, Cond.selects RX5 yX5_climb yX5_climb, Cond.code yX5_climb cX5_climb 5 (some .int), Cond.methodLink RX5 97 yX3_walk, Cond.instanceMethod yX3_walk, Cond.selects RX3 yX3_walk yX3_walk, Cond.code yX3_walk cX3_walk 8 (some .int), Cond.methodLink RX3 49 Lib.Math.abs.name, Cond.static Lib.Math.abs.name, Cond.code Lib.Math.abs.name Lib.Math.abs.code 1 (some .int), Cond.methodLink RX3 45 yX2_stepOf, Cond.instanceMethod yX2_stepOf, Cond.selects RX2 yX2_stepOf yX2_stepOf, Cond.code yX2_stepOf cX2_stepOf 2 (some .int), Cond.methodLink RX3 54 yX2_setStep, Cond.instanceMethod yX2_setStep, Cond.selects RX2 yX2_setStep yX2_setStep, Cond.code yX2_setStep cX2_setStep 3 none]
def wsL_law0_r12 : List Cond := [Cond.methodLink RL 90 yL_areAlike, Cond.static yL_areAlike, Cond.code yL_areAlike cL_areAlike 5 (some .boolean), Cond.methodLink RL 50 yX5_ladder, Cond.instanceMethod yX5_ladder, Cond.selects RX5 yX5_ladder yX5_ladder, Cond.code yX5_ladder cX5_ladder 4 (some .int), Cond.fieldLink RX5 151 "LadderClimb$Rig" "falls" "I", Cond.methodLink RX5 145 yX2_load, Cond.methodLink RX5 148 yX2_moment, Cond.methodLink RX5 154 yX2_stands, Cond.methodLink RL 53 yX5_person, Cond.instanceMethod yX5_person, Cond.selects RX5 yX5_person yX5_person, Cond.code yX5_person cX5_person 5 (some .int), Cond.methodLink RX5 159 yX2_weightOf, Cond.instanceMethod yX2_weightOf, Cond.selects RX2 yX2_weightOf yX2_weightOf, Cond.code yX2_weightOf cX2_weightOf 2 (some .int), Cond.methodLink RX5 163 yX2_stepOf, Cond.methodLink RL 94 yX5_undo, Cond.instanceMethod yX5_undo, Cond.selects RX5 yX5_undo yX5_undo, Cond.code yX5_undo cX5_undo 1 (some .int)]
def wsL_law0_r13 : List Cond := [Cond.methodLink RX5 142 yX0_restoreTo, Cond.instanceMethod yX0_restoreTo, Cond.selects RX0 yX0_restoreTo yX0_restoreTo, Cond.code yX0_restoreTo cX0_restoreTo 3 none, Cond.methodLink RL 98 yL_areSums, Cond.static yL_areSums, Cond.code yL_areSums cL_areSums 8 (some .boolean), Cond.methodLink RL 77 yX5_safety, Cond.instanceMethod yX5_safety, Cond.selects RX5 yX5_safety yX5_safety, Cond.code yX5_safety cX5_safety 3 (some .double), Cond.methodLink RL 102 yL_isLadderSo, Cond.static yL_isLadderSo, Cond.code yL_isLadderSo cL_isLadderSo 10 (some .boolean), Cond.methodLink RL 56 yX5_force, Cond.instanceMethod yX5_force, Cond.selects RX5 yX5_force yX5_force, Cond.code yX5_force cX5_force 4 (some .int), Cond.methodLink RX5 168 yX2_forces, Cond.instanceMethod yX2_forces, Cond.selects RX2 yX2_forces yX2_forces, Cond.code yX2_forces cX2_forces 1 (some .int), Cond.methodLink RX5 171 yX2_leastForce, Cond.methodLink RX5 174 yX2_greatestForce]
def wsL_law0_r14 : List Cond := [Cond.methodLink RX5 177 yX2_nearestForce, Cond.instanceMethod yX2_nearestForce, Cond.selects RX2 yX2_nearestForce yX2_nearestForce, Cond.code yX2_nearestForce cX2_nearestForce 1 (some .int), Cond.methodLink RX2 79 Lib.Math.min.name, Cond.methodLink RX5 180 yX2_push, Cond.instanceMethod yX2_push, Cond.selects RX2 yX2_push yX2_push, Cond.code yX2_push cX2_push 2 (some .int), Cond.methodLink RL 59 yX5_held, Cond.instanceMethod yX5_held, Cond.selects RX5 yX5_held yX5_held, Cond.code yX5_held cX5_held 4 (some .int), Cond.methodLink RX5 183 yX2_whatGivesWay, Cond.instanceMethod yX2_whatGivesWay, Cond.selects RX2 yX2_whatGivesWay yX2_whatGivesWay, Cond.code yX2_whatGivesWay cX2_whatGivesWay 5 (some .int), Cond.methodLink RX2 58 Lib.Math.abs.name, Cond.methodLink RX2 51 yX2_push, Cond.methodLink RL 106 yL_areTrialsSo, Cond.static yL_areTrialsSo, Cond.code yL_areTrialsSo cL_areTrialsSo 10 (some .boolean), Cond.methodLink RL 62 yX5_neededRope, Cond.instanceMethod yX5_neededRope]
def wsL_law0_r15 : List Cond := [Cond.selects RX5 yX5_neededRope yX5_neededRope, Cond.code yX5_neededRope cX5_neededRope 3 (some .int), Cond.methodLink RX5 201 yX2_copyFrom, Cond.methodLink RL 65 yX5_walls, Cond.instanceMethod yX5_walls, Cond.selects RX5 yX5_walls yX5_walls, Cond.code yX5_walls cX5_walls 4 (some .int), Cond.methodLink RL 68 yX5_bestBase, Cond.instanceMethod yX5_bestBase, Cond.selects RX5 yX5_bestBase yX5_bestBase, Cond.code yX5_bestBase cX5_bestBase 6 (some .int), Cond.methodLink RL 71 yX5_riskiest, Cond.instanceMethod yX5_riskiest, Cond.selects RX5 yX5_riskiest yX5_riskiest, Cond.code yX5_riskiest cX5_riskiest 7 (some .int), Cond.methodLink RL 74 yX5_highest, Cond.instanceMethod yX5_highest, Cond.selects RX5 yX5_highest yX5_highest, Cond.code yX5_highest cX5_highest 6 (some .int), Cond.methodLink RX5 205 yX2_setStep]
def wsL_law0 : List Cond := (wsL_law0_r1 ++ (wsL_law0_r2 ++ (wsL_law0_r3 ++ (wsL_law0_r4 ++ (wsL_law0_r5 ++ (wsL_law0_r6 ++ (wsL_law0_r7 ++ (wsL_law0_r8 ++ (wsL_law0_r9 ++ (wsL_law0_r10 ++ (wsL_law0_r11 ++ (wsL_law0_r12 ++ (wsL_law0_r13 ++ (wsL_law0_r14 ++ wsL_law0_r15)))))))))))))) ++ wsX50 ++ wsX30 ++ wsX00 ++ wsX40 ++ wsX20 ++ wsX10 ++ ([] : List Cond)
def wsL_law : List Cond := wsL_law0 ++ (vx_atS RX5 122 "java/lang/IllegalArgumentException" ["java/lang/RuntimeException", "java/lang/Exception"]).filter goodWord ++ (vx_atS RX5 284 "java/lang/IndexOutOfBoundsException" ["java/lang/RuntimeException", "java/lang/Exception"]).filter goodWord ++ (vx_atS RX5 80 "java/lang/IllegalStateException" ["java/lang/RuntimeException", "java/lang/Exception"]).filter goodWord
abbrev vwCl : List vw_C := [(RX0, TX0, 3), (RX1, TX1, 6), (RX2, TX2, 10), (RX3, TX3, 3), (RX4, TX4, 4), (RX5, TX5, 4)]
end
section
theorem inJ9 : ∀ w ∈ wsJ90, w ∈ lw_tbl := by decide +kernel
theorem inJ0 : ∀ w ∈ wsJ00, w ∈ lw_tbl := by decide +kernel
theorem dJ9_floorDiv_7cf53_0 : decode cJ9_floorDiv_7cf53 0 = .ok (.iload_n 0, 1) := by decide +kernel
theorem dJ9_floorDiv_7cf53_1 : decode cJ9_floorDiv_7cf53 1 = .ok (.iload_n 1, 1) := by decide +kernel
theorem dJ9_floorDiv_7cf53_2 : decode cJ9_floorDiv_7cf53 2 = .ok (.idiv, 1) := by decide +kernel
theorem dJ9_floorDiv_7cf53_3 : decode cJ9_floorDiv_7cf53 3 = .ok (.istore_n 2, 1) := by decide +kernel
theorem dJ9_floorDiv_7cf53_4 : decode cJ9_floorDiv_7cf53 4 = .ok (.iload_n 0, 1) := by decide +kernel
theorem dJ9_floorDiv_7cf53_5 : decode cJ9_floorDiv_7cf53 5 = .ok (.iload_n 1, 1) := by decide +kernel
theorem dJ9_floorDiv_7cf53_6 : decode cJ9_floorDiv_7cf53 6 = .ok (.ixor, 1) := by decide +kernel
theorem dJ9_floorDiv_7cf53_7 : decode cJ9_floorDiv_7cf53 7 = .ok (.ifCond .ge 14, 3) := by decide +kernel
theorem dJ9_floorDiv_7cf53_10 : decode cJ9_floorDiv_7cf53 10 = .ok (.iload_n 2, 1) := by decide +kernel
theorem dJ9_floorDiv_7cf53_11 : decode cJ9_floorDiv_7cf53 11 = .ok (.iload_n 1, 1) := by decide +kernel
theorem dJ9_floorDiv_7cf53_12 : decode cJ9_floorDiv_7cf53 12 = .ok (.imul, 1) := by decide +kernel
theorem dJ9_floorDiv_7cf53_13 : decode cJ9_floorDiv_7cf53 13 = .ok (.iload_n 0, 1) := by decide +kernel
theorem dJ9_floorDiv_7cf53_14 : decode cJ9_floorDiv_7cf53 14 = .ok (.if_icmp .eq 7, 3) := by decide +kernel
theorem dJ9_floorDiv_7cf53_17 : decode cJ9_floorDiv_7cf53 17 = .ok (.iload_n 2, 1) := by decide +kernel
theorem dJ9_floorDiv_7cf53_18 : decode cJ9_floorDiv_7cf53 18 = .ok (.iconst 1, 1) := by decide +kernel
theorem dJ9_floorDiv_7cf53_19 : decode cJ9_floorDiv_7cf53 19 = .ok (.isub, 1) := by decide +kernel
theorem dJ9_floorDiv_7cf53_20 : decode cJ9_floorDiv_7cf53 20 = .ok (.ireturn, 1) := by decide +kernel
theorem dJ9_floorDiv_7cf53_21 : decode cJ9_floorDiv_7cf53 21 = .ok (.iload_n 2, 1) := by decide +kernel
theorem dJ9_floorDiv_7cf53_22 : decode cJ9_floorDiv_7cf53 22 = .ok (.ireturn, 1) := by decide +kernel
theorem dJ9_abs_0f7a4_0 : decode cJ9_abs_0f7a4 0 = .ok (.iload_n 0, 1) := by decide +kernel
theorem dJ9_abs_0f7a4_1 : decode cJ9_abs_0f7a4 1 = .ok (.ifCond .ge 8, 3) := by decide +kernel
theorem dJ9_abs_0f7a4_4 : decode cJ9_abs_0f7a4 4 = .ok (.iload_n 0, 1) := by decide +kernel
theorem dJ9_abs_0f7a4_5 : decode cJ9_abs_0f7a4 5 = .ok (.ineg, 1) := by decide +kernel
theorem dJ9_abs_0f7a4_6 : decode cJ9_abs_0f7a4 6 = .ok (.goto 4, 3) := by decide +kernel
theorem dJ9_abs_0f7a4_9 : decode cJ9_abs_0f7a4 9 = .ok (.iload_n 0, 1) := by decide +kernel
theorem dJ9_abs_0f7a4_10 : decode cJ9_abs_0f7a4 10 = .ok (.ireturn, 1) := by decide +kernel
theorem dJ9_max_7cf53_0 : decode cJ9_max_7cf53 0 = .ok (.iload_n 0, 1) := by decide +kernel
theorem dJ9_max_7cf53_1 : decode cJ9_max_7cf53 1 = .ok (.iload_n 1, 1) := by decide +kernel
theorem dJ9_max_7cf53_2 : decode cJ9_max_7cf53 2 = .ok (.if_icmp .lt 7, 3) := by decide +kernel
theorem dJ9_max_7cf53_5 : decode cJ9_max_7cf53 5 = .ok (.iload_n 0, 1) := by decide +kernel
theorem dJ9_max_7cf53_6 : decode cJ9_max_7cf53 6 = .ok (.goto 4, 3) := by decide +kernel
theorem dJ9_max_7cf53_9 : decode cJ9_max_7cf53 9 = .ok (.iload_n 1, 1) := by decide +kernel
theorem dJ9_max_7cf53_10 : decode cJ9_max_7cf53 10 = .ok (.ireturn, 1) := by decide +kernel
theorem dJ9_min_7cf53_0 : decode cJ9_min_7cf53 0 = .ok (.iload_n 0, 1) := by decide +kernel
theorem dJ9_min_7cf53_1 : decode cJ9_min_7cf53 1 = .ok (.iload_n 1, 1) := by decide +kernel
theorem dJ9_min_7cf53_2 : decode cJ9_min_7cf53 2 = .ok (.if_icmp .gt 7, 3) := by decide +kernel
theorem dJ9_min_7cf53_5 : decode cJ9_min_7cf53 5 = .ok (.iload_n 0, 1) := by decide +kernel
theorem dJ9_min_7cf53_6 : decode cJ9_min_7cf53 6 = .ok (.goto 4, 3) := by decide +kernel
theorem dJ9_min_7cf53_9 : decode cJ9_min_7cf53 9 = .ok (.iload_n 1, 1) := by decide +kernel
theorem dJ9_min_7cf53_10 : decode cJ9_min_7cf53 10 = .ok (.ireturn, 1) := by decide +kernel
set_option maxRecDepth 20000 in
theorem ggX0_init_X3_init : GoodIn wsX0_init wsX3_init := goodIn_r _ [12, 13, 2, 3, 14, 15, 16, 17, 18, 19, 20, 21, 22, 23, 24, 25, 26, 27, 28, 29, 30, 31, 32, 33, 37, 38, 39, 40, 41, 42, 43, 44, 45, 46, 47, 48, 49] (by decide +kernel) (by decide +kernel)
set_option maxRecDepth 20000 in
theorem gX0_init_X3_init : GoodIn wsX0_init (wsX3_init) := ggX0_init_X3_init
theorem dX0_init_0 : decode cX0_init 0 = .ok (.aload_n 0, 1) := by decide +kernel
theorem dX0_init_1 : decode cX0_init 1 = .ok (.invokespecial 3, 3) := by decide +kernel
theorem dX0_init_4 : decode cX0_init 4 = .ok (.aload_n 0, 1) := by decide +kernel
theorem dX0_init_5 : decode cX0_init 5 = .ok (.bipush 6, 2) := by decide +kernel
theorem dX0_init_7 : decode cX0_init 7 = .ok (.anewarray 9, 3) := by decide +kernel
theorem dX0_init_10 : decode cX0_init 10 = .ok (.putfield 11, 3) := by decide +kernel
theorem dX0_init_13 : decode cX0_init 13 = .ok (.aload_n 0, 1) := by decide +kernel
theorem dX0_init_14 : decode cX0_init 14 = .ok (.iconst 0, 1) := by decide +kernel
theorem dX0_init_15 : decode cX0_init 15 = .ok (.putfield 17, 3) := by decide +kernel
theorem dX0_init_18 : decode cX0_init 18 = .ok (.aload_n 0, 1) := by decide +kernel
theorem dX0_init_19 : decode cX0_init 19 = .ok (.iconst 0, 1) := by decide +kernel
theorem dX0_init_20 : decode cX0_init 20 = .ok (.putfield 21, 3) := by decide +kernel
theorem dX0_init_23 : decode cX0_init 23 = .ok (.iconst 0, 1) := by decide +kernel
theorem dX0_init_24 : decode cX0_init 24 = .ok (.istore_n 1, 1) := by decide +kernel
theorem dX0_init_25 : decode cX0_init 25 = .ok (.iload_n 1, 1) := by decide +kernel
theorem dX0_init_26 : decode cX0_init 26 = .ok (.bipush 6, 2) := by decide +kernel
theorem dX0_init_28 : decode cX0_init 28 = .ok (.if_icmp .ge 22, 3) := by decide +kernel
theorem dX0_init_31 : decode cX0_init 31 = .ok (.aload_n 0, 1) := by decide +kernel
theorem dX0_init_32 : decode cX0_init 32 = .ok (.getfield 11, 3) := by decide +kernel
theorem dX0_init_35 : decode cX0_init 35 = .ok (.iload_n 1, 1) := by decide +kernel
theorem dX0_init_36 : decode cX0_init 36 = .ok (.new 9, 3) := by decide +kernel
theorem dX0_init_39 : decode cX0_init 39 = .ok (.dup, 1) := by decide +kernel
theorem dX0_init_40 : decode cX0_init 40 = .ok (.invokespecial 24, 3) := by decide +kernel
theorem dX0_init_43 : decode cX0_init 43 = .ok (.aastore, 1) := by decide +kernel
theorem dX0_init_44 : decode cX0_init 44 = .ok (.iinc 1 1, 3) := by decide +kernel
theorem dX0_init_47 : decode cX0_init 47 = .ok (.goto (-22), 3) := by decide +kernel
theorem dX0_init_50 : decode cX0_init 50 = .ok (.return_, 1) := by decide +kernel
set_option maxRecDepth 20000 in
theorem ggX0_save_X3_copyFrom : GoodIn wsX0_save wsX3_copyFrom := goodIn_r _ [12, 13, 14, 15, 16, 17, 18, 19, 20, 21, 22, 23, 24, 25, 26, 27, 28, 29, 30, 34, 35, 36, 37, 38, 39, 40, 41, 42, 43, 44, 45, 46] (by decide +kernel) (by decide +kernel)
set_option maxRecDepth 20000 in
theorem gX0_save_X3_copyFrom : GoodIn wsX0_save (wsV RX0 25 RX3 yX3_copyFrom wsX3_copyFrom) := goodIn_app (goodIn_of _ (by decide +kernel)) ggX0_save_X3_copyFrom
theorem dX0_save_0 : decode cX0_save 0 = .ok (.aload_n 0, 1) := by decide +kernel
theorem dX0_save_1 : decode cX0_save 1 = .ok (.getfield 17, 3) := by decide +kernel
theorem dX0_save_4 : decode cX0_save 4 = .ok (.ifCond .lt 12, 3) := by decide +kernel
theorem dX0_save_7 : decode cX0_save 7 = .ok (.aload_n 0, 1) := by decide +kernel
theorem dX0_save_8 : decode cX0_save 8 = .ok (.getfield 17, 3) := by decide +kernel
theorem dX0_save_11 : decode cX0_save 11 = .ok (.bipush 6, 2) := by decide +kernel
theorem dX0_save_13 : decode cX0_save 13 = .ok (.if_icmp .lt 4, 3) := by decide +kernel
theorem dX0_save_16 : decode cX0_save 16 = .ok (.return_, 1) := by decide +kernel
theorem dX0_save_17 : decode cX0_save 17 = .ok (.aload_n 0, 1) := by decide +kernel
theorem dX0_save_18 : decode cX0_save 18 = .ok (.getfield 11, 3) := by decide +kernel
theorem dX0_save_21 : decode cX0_save 21 = .ok (.aload_n 0, 1) := by decide +kernel
theorem dX0_save_22 : decode cX0_save 22 = .ok (.getfield 17, 3) := by decide +kernel
theorem dX0_save_25 : decode cX0_save 25 = .ok (.aaload, 1) := by decide +kernel
theorem dX0_save_26 : decode cX0_save 26 = .ok (.aload_n 1, 1) := by decide +kernel
theorem dX0_save_27 : decode cX0_save 27 = .ok (.invokevirtual 25, 3) := by decide +kernel
theorem dX0_save_30 : decode cX0_save 30 = .ok (.aload_n 0, 1) := by decide +kernel
theorem dX0_save_31 : decode cX0_save 31 = .ok (.aload_n 0, 1) := by decide +kernel
theorem dX0_save_32 : decode cX0_save 32 = .ok (.getfield 17, 3) := by decide +kernel
theorem dX0_save_35 : decode cX0_save 35 = .ok (.iconst 1, 1) := by decide +kernel
theorem dX0_save_36 : decode cX0_save 36 = .ok (.iadd, 1) := by decide +kernel
theorem dX0_save_37 : decode cX0_save 37 = .ok (.bipush 6, 2) := by decide +kernel
theorem dX0_save_39 : decode cX0_save 39 = .ok (.if_icmp .ge 12, 3) := by decide +kernel
theorem dX0_save_42 : decode cX0_save 42 = .ok (.aload_n 0, 1) := by decide +kernel
theorem dX0_save_43 : decode cX0_save 43 = .ok (.getfield 17, 3) := by decide +kernel
theorem dX0_save_46 : decode cX0_save 46 = .ok (.iconst 1, 1) := by decide +kernel
theorem dX0_save_47 : decode cX0_save 47 = .ok (.iadd, 1) := by decide +kernel
theorem dX0_save_48 : decode cX0_save 48 = .ok (.goto 4, 3) := by decide +kernel
theorem dX0_save_51 : decode cX0_save 51 = .ok (.iconst 0, 1) := by decide +kernel
theorem dX0_save_52 : decode cX0_save 52 = .ok (.putfield 17, 3) := by decide +kernel
theorem dX0_save_55 : decode cX0_save 55 = .ok (.aload_n 0, 1) := by decide +kernel
theorem dX0_save_56 : decode cX0_save 56 = .ok (.aload_n 0, 1) := by decide +kernel
theorem dX0_save_57 : decode cX0_save 57 = .ok (.getfield 21, 3) := by decide +kernel
theorem dX0_save_60 : decode cX0_save 60 = .ok (.iconst 1, 1) := by decide +kernel
theorem dX0_save_61 : decode cX0_save 61 = .ok (.iadd, 1) := by decide +kernel
theorem dX0_save_62 : decode cX0_save 62 = .ok (.bipush 6, 2) := by decide +kernel
theorem dX0_save_64 : decode cX0_save 64 = .ok (.invokestatic 29, 3) := by decide +kernel
theorem dX0_save_67 : decode cX0_save 67 = .ok (.putfield 21, 3) := by decide +kernel
theorem dX0_save_70 : decode cX0_save 70 = .ok (.return_, 1) := by decide +kernel
set_option maxRecDepth 20000 in
theorem ggX0_restoreTo_X3_copyFrom : GoodIn wsX0_restoreTo wsX3_copyFrom := goodIn_r _ [8, 9, 10, 11, 12, 13, 14, 15, 16, 17, 18, 19, 20, 21, 22, 23, 24, 25, 26, 30, 31, 32, 33, 34, 35, 36, 37, 38, 39, 40, 41, 42] (by decide +kernel) (by decide +kernel)
set_option maxRecDepth 20000 in
theorem gX0_restoreTo_X3_copyFrom : GoodIn wsX0_restoreTo (wsV RX0 25 RX3 yX3_copyFrom wsX3_copyFrom) := goodIn_app (goodIn_of _ (by decide +kernel)) ggX0_restoreTo_X3_copyFrom
theorem dX0_restoreTo_0 : decode cX0_restoreTo 0 = .ok (.aload_n 0, 1) := by decide +kernel
theorem dX0_restoreTo_1 : decode cX0_restoreTo 1 = .ok (.getfield 17, 3) := by decide +kernel
theorem dX0_restoreTo_4 : decode cX0_restoreTo 4 = .ok (.ifCond .le 12, 3) := by decide +kernel
theorem dX0_restoreTo_7 : decode cX0_restoreTo 7 = .ok (.aload_n 0, 1) := by decide +kernel
theorem dX0_restoreTo_8 : decode cX0_restoreTo 8 = .ok (.getfield 17, 3) := by decide +kernel
theorem dX0_restoreTo_11 : decode cX0_restoreTo 11 = .ok (.iconst 1, 1) := by decide +kernel
theorem dX0_restoreTo_12 : decode cX0_restoreTo 12 = .ok (.isub, 1) := by decide +kernel
theorem dX0_restoreTo_13 : decode cX0_restoreTo 13 = .ok (.goto 4, 3) := by decide +kernel
theorem dX0_restoreTo_16 : decode cX0_restoreTo 16 = .ok (.iconst 5, 1) := by decide +kernel
theorem dX0_restoreTo_17 : decode cX0_restoreTo 17 = .ok (.istore_n 2, 1) := by decide +kernel
theorem dX0_restoreTo_18 : decode cX0_restoreTo 18 = .ok (.aload_n 0, 1) := by decide +kernel
theorem dX0_restoreTo_19 : decode cX0_restoreTo 19 = .ok (.getfield 21, 3) := by decide +kernel
theorem dX0_restoreTo_22 : decode cX0_restoreTo 22 = .ok (.ifCond .le 9, 3) := by decide +kernel
theorem dX0_restoreTo_25 : decode cX0_restoreTo 25 = .ok (.iload_n 2, 1) := by decide +kernel
theorem dX0_restoreTo_26 : decode cX0_restoreTo 26 = .ok (.bipush 6, 2) := by decide +kernel
theorem dX0_restoreTo_28 : decode cX0_restoreTo 28 = .ok (.if_icmp .lt 4, 3) := by decide +kernel
theorem dX0_restoreTo_31 : decode cX0_restoreTo 31 = .ok (.return_, 1) := by decide +kernel
theorem dX0_restoreTo_32 : decode cX0_restoreTo 32 = .ok (.aload_n 1, 1) := by decide +kernel
theorem dX0_restoreTo_33 : decode cX0_restoreTo 33 = .ok (.aload_n 0, 1) := by decide +kernel
theorem dX0_restoreTo_34 : decode cX0_restoreTo 34 = .ok (.getfield 11, 3) := by decide +kernel
theorem dX0_restoreTo_37 : decode cX0_restoreTo 37 = .ok (.iload_n 2, 1) := by decide +kernel
theorem dX0_restoreTo_38 : decode cX0_restoreTo 38 = .ok (.aaload, 1) := by decide +kernel
theorem dX0_restoreTo_39 : decode cX0_restoreTo 39 = .ok (.invokevirtual 25, 3) := by decide +kernel
theorem dX0_restoreTo_42 : decode cX0_restoreTo 42 = .ok (.aload_n 0, 1) := by decide +kernel
theorem dX0_restoreTo_43 : decode cX0_restoreTo 43 = .ok (.iload_n 2, 1) := by decide +kernel
theorem dX0_restoreTo_44 : decode cX0_restoreTo 44 = .ok (.putfield 17, 3) := by decide +kernel
theorem dX0_restoreTo_47 : decode cX0_restoreTo 47 = .ok (.aload_n 0, 1) := by decide +kernel
theorem dX0_restoreTo_48 : decode cX0_restoreTo 48 = .ok (.dup, 1) := by decide +kernel
theorem dX0_restoreTo_49 : decode cX0_restoreTo 49 = .ok (.getfield 21, 3) := by decide +kernel
theorem dX0_restoreTo_52 : decode cX0_restoreTo 52 = .ok (.iconst 1, 1) := by decide +kernel
theorem dX0_restoreTo_53 : decode cX0_restoreTo 53 = .ok (.isub, 1) := by decide +kernel
theorem dX0_restoreTo_54 : decode cX0_restoreTo 54 = .ok (.putfield 21, 3) := by decide +kernel
theorem dX0_restoreTo_57 : decode cX0_restoreTo 57 = .ok (.return_, 1) := by decide +kernel
theorem dX1_init_0 : decode cX1_init 0 = .ok (.aload_n 0, 1) := by decide +kernel
theorem dX1_init_1 : decode cX1_init 1 = .ok (.invokespecial 3, 3) := by decide +kernel
theorem dX1_init_4 : decode cX1_init 4 = .ok (.aload_n 0, 1) := by decide +kernel
theorem dX1_init_5 : decode cX1_init 5 = .ok (.iconst 0, 1) := by decide +kernel
theorem dX1_init_6 : decode cX1_init 6 = .ok (.putfield 11, 3) := by decide +kernel
theorem dX1_init_9 : decode cX1_init 9 = .ok (.aload_n 0, 1) := by decide +kernel
theorem dX1_init_10 : decode cX1_init 10 = .ok (.iconst 0, 1) := by decide +kernel
theorem dX1_init_11 : decode cX1_init 11 = .ok (.putfield 15, 3) := by decide +kernel
theorem dX1_init_14 : decode cX1_init 14 = .ok (.aload_n 0, 1) := by decide +kernel
theorem dX1_init_15 : decode cX1_init 15 = .ok (.iconst 0, 1) := by decide +kernel
theorem dX1_init_16 : decode cX1_init 16 = .ok (.putfield 18, 3) := by decide +kernel
theorem dX1_init_19 : decode cX1_init 19 = .ok (.aload_n 0, 1) := by decide +kernel
theorem dX1_init_20 : decode cX1_init 20 = .ok (.iconst 0, 1) := by decide +kernel
theorem dX1_init_21 : decode cX1_init 21 = .ok (.putfield 21, 3) := by decide +kernel
theorem dX1_init_24 : decode cX1_init 24 = .ok (.aload_n 0, 1) := by decide +kernel
theorem dX1_init_25 : decode cX1_init 25 = .ok (.iconst 0, 1) := by decide +kernel
theorem dX1_init_26 : decode cX1_init 26 = .ok (.putfield 24, 3) := by decide +kernel
theorem dX1_init_29 : decode cX1_init 29 = .ok (.aload_n 0, 1) := by decide +kernel
theorem dX1_init_30 : decode cX1_init 30 = .ok (.iconst 0, 1) := by decide +kernel
theorem dX1_init_31 : decode cX1_init 31 = .ok (.putfield 27, 3) := by decide +kernel
theorem dX1_init_34 : decode cX1_init 34 = .ok (.return_, 1) := by decide +kernel
theorem dX2_init_0 : decode cX2_init 0 = .ok (.aload_n 0, 1) := by decide +kernel
theorem dX2_init_1 : decode cX2_init 1 = .ok (.invokespecial 3, 3) := by decide +kernel
theorem dX2_init_4 : decode cX2_init 4 = .ok (.aload_n 0, 1) := by decide +kernel
theorem dX2_init_5 : decode cX2_init 5 = .ok (.bipush 50, 2) := by decide +kernel
theorem dX2_init_7 : decode cX2_init 7 = .ok (.putfield 9, 3) := by decide +kernel
theorem dX2_init_10 : decode cX2_init 10 = .ok (.aload_n 0, 1) := by decide +kernel
theorem dX2_init_11 : decode cX2_init 11 = .ok (.sipush 150, 3) := by decide +kernel
theorem dX2_init_14 : decode cX2_init 14 = .ok (.putfield 15, 3) := by decide +kernel
theorem dX2_init_17 : decode cX2_init 17 = .ok (.aload_n 0, 1) := by decide +kernel
theorem dX2_init_18 : decode cX2_init 18 = .ok (.bipush 20, 2) := by decide +kernel
theorem dX2_init_20 : decode cX2_init 20 = .ok (.putfield 18, 3) := by decide +kernel
theorem dX2_init_23 : decode cX2_init 23 = .ok (.aload_n 0, 1) := by decide +kernel
theorem dX2_init_24 : decode cX2_init 24 = .ok (.iconst 2, 1) := by decide +kernel
theorem dX2_init_25 : decode cX2_init 25 = .ok (.putfield 21, 3) := by decide +kernel
theorem dX2_init_28 : decode cX2_init 28 = .ok (.aload_n 0, 1) := by decide +kernel
theorem dX2_init_29 : decode cX2_init 29 = .ok (.iconst 2, 1) := by decide +kernel
theorem dX2_init_30 : decode cX2_init 30 = .ok (.putfield 24, 3) := by decide +kernel
theorem dX2_init_33 : decode cX2_init 33 = .ok (.aload_n 0, 1) := by decide +kernel
theorem dX2_init_34 : decode cX2_init 34 = .ok (.iconst 0, 1) := by decide +kernel
theorem dX2_init_35 : decode cX2_init 35 = .ok (.putfield 27, 3) := by decide +kernel
theorem dX2_init_38 : decode cX2_init 38 = .ok (.aload_n 0, 1) := by decide +kernel
theorem dX2_init_39 : decode cX2_init 39 = .ok (.iconst 0, 1) := by decide +kernel
theorem dX2_init_40 : decode cX2_init 40 = .ok (.putfield 30, 3) := by decide +kernel
theorem dX2_init_43 : decode cX2_init 43 = .ok (.aload_n 0, 1) := by decide +kernel
theorem dX2_init_44 : decode cX2_init 44 = .ok (.iconst 0, 1) := by decide +kernel
theorem dX2_init_45 : decode cX2_init 45 = .ok (.putfield 33, 3) := by decide +kernel
theorem dX2_init_48 : decode cX2_init 48 = .ok (.aload_n 0, 1) := by decide +kernel
theorem dX2_init_49 : decode cX2_init 49 = .ok (.iconst 3, 1) := by decide +kernel
theorem dX2_init_50 : decode cX2_init 50 = .ok (.newarray .int, 2) := by decide +kernel
theorem dX2_init_52 : decode cX2_init 52 = .ok (.putfield 36, 3) := by decide +kernel
theorem dX2_init_55 : decode cX2_init 55 = .ok (.aload_n 0, 1) := by decide +kernel
theorem dX2_init_56 : decode cX2_init 56 = .ok (.iconst 3, 1) := by decide +kernel
theorem dX2_init_57 : decode cX2_init 57 = .ok (.newarray .int, 2) := by decide +kernel
theorem dX2_init_59 : decode cX2_init 59 = .ok (.putfield 40, 3) := by decide +kernel
theorem dX2_init_62 : decode cX2_init 62 = .ok (.return_, 1) := by decide +kernel
theorem dX2_copyFrom_0 : decode cX2_copyFrom 0 = .ok (.aload_n 0, 1) := by decide +kernel
theorem dX2_copyFrom_1 : decode cX2_copyFrom 1 = .ok (.aload_n 1, 1) := by decide +kernel
theorem dX2_copyFrom_2 : decode cX2_copyFrom 2 = .ok (.getfield 9, 3) := by decide +kernel
theorem dX2_copyFrom_5 : decode cX2_copyFrom 5 = .ok (.putfield 9, 3) := by decide +kernel
theorem dX2_copyFrom_8 : decode cX2_copyFrom 8 = .ok (.aload_n 0, 1) := by decide +kernel
theorem dX2_copyFrom_9 : decode cX2_copyFrom 9 = .ok (.aload_n 1, 1) := by decide +kernel
theorem dX2_copyFrom_10 : decode cX2_copyFrom 10 = .ok (.getfield 15, 3) := by decide +kernel
theorem dX2_copyFrom_13 : decode cX2_copyFrom 13 = .ok (.putfield 15, 3) := by decide +kernel
theorem dX2_copyFrom_16 : decode cX2_copyFrom 16 = .ok (.aload_n 0, 1) := by decide +kernel
theorem dX2_copyFrom_17 : decode cX2_copyFrom 17 = .ok (.aload_n 1, 1) := by decide +kernel
theorem dX2_copyFrom_18 : decode cX2_copyFrom 18 = .ok (.getfield 18, 3) := by decide +kernel
theorem dX2_copyFrom_21 : decode cX2_copyFrom 21 = .ok (.putfield 18, 3) := by decide +kernel
theorem dX2_copyFrom_24 : decode cX2_copyFrom 24 = .ok (.aload_n 0, 1) := by decide +kernel
theorem dX2_copyFrom_25 : decode cX2_copyFrom 25 = .ok (.aload_n 1, 1) := by decide +kernel
theorem dX2_copyFrom_26 : decode cX2_copyFrom 26 = .ok (.getfield 21, 3) := by decide +kernel
theorem dX2_copyFrom_29 : decode cX2_copyFrom 29 = .ok (.putfield 21, 3) := by decide +kernel
theorem dX2_copyFrom_32 : decode cX2_copyFrom 32 = .ok (.aload_n 0, 1) := by decide +kernel
theorem dX2_copyFrom_33 : decode cX2_copyFrom 33 = .ok (.aload_n 1, 1) := by decide +kernel
theorem dX2_copyFrom_34 : decode cX2_copyFrom 34 = .ok (.getfield 24, 3) := by decide +kernel
theorem dX2_copyFrom_37 : decode cX2_copyFrom 37 = .ok (.putfield 24, 3) := by decide +kernel
theorem dX2_copyFrom_40 : decode cX2_copyFrom 40 = .ok (.aload_n 0, 1) := by decide +kernel
theorem dX2_copyFrom_41 : decode cX2_copyFrom 41 = .ok (.aload_n 1, 1) := by decide +kernel
theorem dX2_copyFrom_42 : decode cX2_copyFrom 42 = .ok (.getfield 27, 3) := by decide +kernel
theorem dX2_copyFrom_45 : decode cX2_copyFrom 45 = .ok (.putfield 27, 3) := by decide +kernel
theorem dX2_copyFrom_48 : decode cX2_copyFrom 48 = .ok (.aload_n 0, 1) := by decide +kernel
theorem dX2_copyFrom_49 : decode cX2_copyFrom 49 = .ok (.aload_n 1, 1) := by decide +kernel
theorem dX2_copyFrom_50 : decode cX2_copyFrom 50 = .ok (.getfield 30, 3) := by decide +kernel
theorem dX2_copyFrom_53 : decode cX2_copyFrom 53 = .ok (.putfield 30, 3) := by decide +kernel
theorem dX2_copyFrom_56 : decode cX2_copyFrom 56 = .ok (.aload_n 0, 1) := by decide +kernel
theorem dX2_copyFrom_57 : decode cX2_copyFrom 57 = .ok (.aload_n 1, 1) := by decide +kernel
theorem dX2_copyFrom_58 : decode cX2_copyFrom 58 = .ok (.getfield 33, 3) := by decide +kernel
theorem dX2_copyFrom_61 : decode cX2_copyFrom 61 = .ok (.putfield 33, 3) := by decide +kernel
theorem dX2_copyFrom_64 : decode cX2_copyFrom 64 = .ok (.iconst 0, 1) := by decide +kernel
theorem dX2_copyFrom_65 : decode cX2_copyFrom 65 = .ok (.istore_n 2, 1) := by decide +kernel
theorem dX2_copyFrom_66 : decode cX2_copyFrom 66 = .ok (.iload_n 2, 1) := by decide +kernel
theorem dX2_copyFrom_67 : decode cX2_copyFrom 67 = .ok (.iconst 3, 1) := by decide +kernel
theorem dX2_copyFrom_68 : decode cX2_copyFrom 68 = .ok (.if_icmp .ge 33, 3) := by decide +kernel
theorem dX2_copyFrom_71 : decode cX2_copyFrom 71 = .ok (.aload_n 0, 1) := by decide +kernel
theorem dX2_copyFrom_72 : decode cX2_copyFrom 72 = .ok (.getfield 36, 3) := by decide +kernel
theorem dX2_copyFrom_75 : decode cX2_copyFrom 75 = .ok (.iload_n 2, 1) := by decide +kernel
theorem dX2_copyFrom_76 : decode cX2_copyFrom 76 = .ok (.aload_n 1, 1) := by decide +kernel
theorem dX2_copyFrom_77 : decode cX2_copyFrom 77 = .ok (.getfield 36, 3) := by decide +kernel
theorem dX2_copyFrom_80 : decode cX2_copyFrom 80 = .ok (.iload_n 2, 1) := by decide +kernel
theorem dX2_copyFrom_81 : decode cX2_copyFrom 81 = .ok (.iaload, 1) := by decide +kernel
theorem dX2_copyFrom_82 : decode cX2_copyFrom 82 = .ok (.iastore, 1) := by decide +kernel
theorem dX2_copyFrom_83 : decode cX2_copyFrom 83 = .ok (.aload_n 0, 1) := by decide +kernel
theorem dX2_copyFrom_84 : decode cX2_copyFrom 84 = .ok (.getfield 40, 3) := by decide +kernel
theorem dX2_copyFrom_87 : decode cX2_copyFrom 87 = .ok (.iload_n 2, 1) := by decide +kernel
theorem dX2_copyFrom_88 : decode cX2_copyFrom 88 = .ok (.aload_n 1, 1) := by decide +kernel
theorem dX2_copyFrom_89 : decode cX2_copyFrom 89 = .ok (.getfield 40, 3) := by decide +kernel
theorem dX2_copyFrom_92 : decode cX2_copyFrom 92 = .ok (.iload_n 2, 1) := by decide +kernel
theorem dX2_copyFrom_93 : decode cX2_copyFrom 93 = .ok (.iaload, 1) := by decide +kernel
theorem dX2_copyFrom_94 : decode cX2_copyFrom 94 = .ok (.iastore, 1) := by decide +kernel
theorem dX2_copyFrom_95 : decode cX2_copyFrom 95 = .ok (.iinc 2 1, 3) := by decide +kernel
theorem dX2_copyFrom_98 : decode cX2_copyFrom 98 = .ok (.goto (-32), 3) := by decide +kernel
theorem dX2_copyFrom_101 : decode cX2_copyFrom 101 = .ok (.return_, 1) := by decide +kernel
theorem dX2_isFull_0 : decode cX2_isFull 0 = .ok (.aload_n 0, 1) := by decide +kernel
theorem dX2_isFull_1 : decode cX2_isFull 1 = .ok (.getfield 33, 3) := by decide +kernel
theorem dX2_isFull_4 : decode cX2_isFull 4 = .ok (.iconst 3, 1) := by decide +kernel
theorem dX2_isFull_5 : decode cX2_isFull 5 = .ok (.if_icmp .lt 7, 3) := by decide +kernel
theorem dX2_isFull_8 : decode cX2_isFull 8 = .ok (.iconst 1, 1) := by decide +kernel
theorem dX2_isFull_9 : decode cX2_isFull 9 = .ok (.goto 4, 3) := by decide +kernel
theorem dX2_isFull_12 : decode cX2_isFull 12 = .ok (.iconst 0, 1) := by decide +kernel
theorem dX2_isFull_13 : decode cX2_isFull 13 = .ok (.ireturn, 1) := by decide +kernel
theorem dX2_bears_0 : decode cX2_bears 0 = .ok (.iload_n 1, 1) := by decide +kernel
theorem dX2_bears_1 : decode cX2_bears 1 = .ok (.ifCond .lt 20, 3) := by decide +kernel
theorem dX2_bears_4 : decode cX2_bears 4 = .ok (.iload_n 1, 1) := by decide +kernel
theorem dX2_bears_5 : decode cX2_bears 5 = .ok (.aload_n 0, 1) := by decide +kernel
theorem dX2_bears_6 : decode cX2_bears 6 = .ok (.getfield 33, 3) := by decide +kernel
theorem dX2_bears_9 : decode cX2_bears 9 = .ok (.if_icmp .ge 12, 3) := by decide +kernel
theorem dX2_bears_12 : decode cX2_bears 12 = .ok (.iload_n 1, 1) := by decide +kernel
theorem dX2_bears_13 : decode cX2_bears 13 = .ok (.iconst 3, 1) := by decide +kernel
theorem dX2_bears_14 : decode cX2_bears 14 = .ok (.if_icmp .ge 7, 3) := by decide +kernel
theorem dX2_bears_17 : decode cX2_bears 17 = .ok (.iconst 1, 1) := by decide +kernel
theorem dX2_bears_18 : decode cX2_bears 18 = .ok (.goto 4, 3) := by decide +kernel
theorem dX2_bears_21 : decode cX2_bears 21 = .ok (.iconst 0, 1) := by decide +kernel
theorem dX2_bears_22 : decode cX2_bears 22 = .ok (.ireturn, 1) := by decide +kernel
set_option maxRecDepth 20000 in
theorem ggX2_weightOf_X2_bears : GoodIn wsX2_weightOf wsX2_bears := goodIn_r _ [6, 7, 8, 9, 10, 11, 12, 13, 14, 15, 16, 17] (by decide +kernel) (by decide +kernel)
set_option maxRecDepth 20000 in
theorem gX2_weightOf_X2_bears : GoodIn wsX2_weightOf (wsV RX2 43 RX2 yX2_bears wsX2_bears) := goodIn_app (goodIn_of _ (by decide +kernel)) ggX2_weightOf_X2_bears
theorem dX2_weightOf_0 : decode cX2_weightOf 0 = .ok (.aload_n 0, 1) := by decide +kernel
theorem dX2_weightOf_1 : decode cX2_weightOf 1 = .ok (.iload_n 1, 1) := by decide +kernel
theorem dX2_weightOf_2 : decode cX2_weightOf 2 = .ok (.invokevirtual 43, 3) := by decide +kernel
theorem dX2_weightOf_5 : decode cX2_weightOf 5 = .ok (.ifCond .eq 12, 3) := by decide +kernel
theorem dX2_weightOf_8 : decode cX2_weightOf 8 = .ok (.aload_n 0, 1) := by decide +kernel
theorem dX2_weightOf_9 : decode cX2_weightOf 9 = .ok (.getfield 36, 3) := by decide +kernel
theorem dX2_weightOf_12 : decode cX2_weightOf 12 = .ok (.iload_n 1, 1) := by decide +kernel
theorem dX2_weightOf_13 : decode cX2_weightOf 13 = .ok (.iaload, 1) := by decide +kernel
theorem dX2_weightOf_14 : decode cX2_weightOf 14 = .ok (.goto 4, 3) := by decide +kernel
theorem dX2_weightOf_17 : decode cX2_weightOf 17 = .ok (.iconst 0, 1) := by decide +kernel
theorem dX2_weightOf_18 : decode cX2_weightOf 18 = .ok (.ireturn, 1) := by decide +kernel
set_option maxRecDepth 20000 in
theorem ggX2_stepOf_X2_bears : GoodIn wsX2_stepOf wsX2_bears := goodIn_r _ [6, 7, 8, 9, 10, 11, 12, 13, 14, 15, 16, 17] (by decide +kernel) (by decide +kernel)
set_option maxRecDepth 20000 in
theorem gX2_stepOf_X2_bears : GoodIn wsX2_stepOf (wsV RX2 43 RX2 yX2_bears wsX2_bears) := goodIn_app (goodIn_of _ (by decide +kernel)) ggX2_stepOf_X2_bears
theorem dX2_stepOf_0 : decode cX2_stepOf 0 = .ok (.aload_n 0, 1) := by decide +kernel
theorem dX2_stepOf_1 : decode cX2_stepOf 1 = .ok (.iload_n 1, 1) := by decide +kernel
theorem dX2_stepOf_2 : decode cX2_stepOf 2 = .ok (.invokevirtual 43, 3) := by decide +kernel
theorem dX2_stepOf_5 : decode cX2_stepOf 5 = .ok (.ifCond .eq 12, 3) := by decide +kernel
theorem dX2_stepOf_8 : decode cX2_stepOf 8 = .ok (.aload_n 0, 1) := by decide +kernel
theorem dX2_stepOf_9 : decode cX2_stepOf 9 = .ok (.getfield 40, 3) := by decide +kernel
theorem dX2_stepOf_12 : decode cX2_stepOf 12 = .ok (.iload_n 1, 1) := by decide +kernel
theorem dX2_stepOf_13 : decode cX2_stepOf 13 = .ok (.iaload, 1) := by decide +kernel
theorem dX2_stepOf_14 : decode cX2_stepOf 14 = .ok (.goto 4, 3) := by decide +kernel
theorem dX2_stepOf_17 : decode cX2_stepOf 17 = .ok (.iconst 0, 1) := by decide +kernel
theorem dX2_stepOf_18 : decode cX2_stepOf 18 = .ok (.ireturn, 1) := by decide +kernel
set_option maxRecDepth 20000 in
theorem ggX2_setStep_X2_bears : GoodIn wsX2_setStep wsX2_bears := goodIn_r _ [6, 7, 8, 9, 10, 11, 12, 13, 14, 15, 16, 17] (by decide +kernel) (by decide +kernel)
set_option maxRecDepth 20000 in
theorem gX2_setStep_X2_bears : GoodIn wsX2_setStep (wsV RX2 43 RX2 yX2_bears wsX2_bears) := goodIn_app (goodIn_of _ (by decide +kernel)) ggX2_setStep_X2_bears
theorem dX2_setStep_0 : decode cX2_setStep 0 = .ok (.aload_n 0, 1) := by decide +kernel
theorem dX2_setStep_1 : decode cX2_setStep 1 = .ok (.iload_n 1, 1) := by decide +kernel
theorem dX2_setStep_2 : decode cX2_setStep 2 = .ok (.invokevirtual 43, 3) := by decide +kernel
theorem dX2_setStep_5 : decode cX2_setStep 5 = .ok (.ifCond .eq 10, 3) := by decide +kernel
theorem dX2_setStep_8 : decode cX2_setStep 8 = .ok (.aload_n 0, 1) := by decide +kernel
theorem dX2_setStep_9 : decode cX2_setStep 9 = .ok (.getfield 40, 3) := by decide +kernel
theorem dX2_setStep_12 : decode cX2_setStep 12 = .ok (.iload_n 1, 1) := by decide +kernel
theorem dX2_setStep_13 : decode cX2_setStep 13 = .ok (.iload_n 2, 1) := by decide +kernel
theorem dX2_setStep_14 : decode cX2_setStep 14 = .ok (.iastore, 1) := by decide +kernel
theorem dX2_setStep_15 : decode cX2_setStep 15 = .ok (.return_, 1) := by decide +kernel
theorem dX2_add_0 : decode cX2_add 0 = .ok (.aload_n 0, 1) := by decide +kernel
theorem dX2_add_1 : decode cX2_add 1 = .ok (.getfield 33, 3) := by decide +kernel
theorem dX2_add_4 : decode cX2_add 4 = .ok (.ifCond .lt 41, 3) := by decide +kernel
theorem dX2_add_7 : decode cX2_add 7 = .ok (.aload_n 0, 1) := by decide +kernel
theorem dX2_add_8 : decode cX2_add 8 = .ok (.getfield 33, 3) := by decide +kernel
theorem dX2_add_11 : decode cX2_add 11 = .ok (.iconst 3, 1) := by decide +kernel
theorem dX2_add_12 : decode cX2_add 12 = .ok (.if_icmp .ge 33, 3) := by decide +kernel
theorem dX2_add_15 : decode cX2_add 15 = .ok (.aload_n 0, 1) := by decide +kernel
theorem dX2_add_16 : decode cX2_add 16 = .ok (.getfield 36, 3) := by decide +kernel
theorem dX2_add_19 : decode cX2_add 19 = .ok (.aload_n 0, 1) := by decide +kernel
theorem dX2_add_20 : decode cX2_add 20 = .ok (.getfield 33, 3) := by decide +kernel
theorem dX2_add_23 : decode cX2_add 23 = .ok (.iload_n 1, 1) := by decide +kernel
theorem dX2_add_24 : decode cX2_add 24 = .ok (.iastore, 1) := by decide +kernel
theorem dX2_add_25 : decode cX2_add 25 = .ok (.aload_n 0, 1) := by decide +kernel
theorem dX2_add_26 : decode cX2_add 26 = .ok (.getfield 40, 3) := by decide +kernel
theorem dX2_add_29 : decode cX2_add 29 = .ok (.aload_n 0, 1) := by decide +kernel
theorem dX2_add_30 : decode cX2_add 30 = .ok (.getfield 33, 3) := by decide +kernel
theorem dX2_add_33 : decode cX2_add 33 = .ok (.iconst 0, 1) := by decide +kernel
theorem dX2_add_34 : decode cX2_add 34 = .ok (.iastore, 1) := by decide +kernel
theorem dX2_add_35 : decode cX2_add 35 = .ok (.aload_n 0, 1) := by decide +kernel
theorem dX2_add_36 : decode cX2_add 36 = .ok (.dup, 1) := by decide +kernel
theorem dX2_add_37 : decode cX2_add 37 = .ok (.getfield 33, 3) := by decide +kernel
theorem dX2_add_40 : decode cX2_add 40 = .ok (.iconst 1, 1) := by decide +kernel
theorem dX2_add_41 : decode cX2_add 41 = .ok (.iadd, 1) := by decide +kernel
theorem dX2_add_42 : decode cX2_add 42 = .ok (.putfield 33, 3) := by decide +kernel
theorem dX2_add_45 : decode cX2_add 45 = .ok (.return_, 1) := by decide +kernel
set_option maxRecDepth 20000 in
theorem ggX2_remove_X2_bears : GoodIn wsX2_remove wsX2_bears := goodIn_r _ [8, 3, 9, 10, 11, 12, 13, 14, 15, 16, 17, 18] (by decide +kernel) (by decide +kernel)
set_option maxRecDepth 20000 in
theorem gX2_remove_X2_bears : GoodIn wsX2_remove (wsV RX2 43 RX2 yX2_bears wsX2_bears) := goodIn_app (goodIn_of _ (by decide +kernel)) ggX2_remove_X2_bears
theorem dX2_remove_0 : decode cX2_remove 0 = .ok (.aload_n 0, 1) := by decide +kernel
theorem dX2_remove_1 : decode cX2_remove 1 = .ok (.iload_n 1, 1) := by decide +kernel
theorem dX2_remove_2 : decode cX2_remove 2 = .ok (.invokevirtual 43, 3) := by decide +kernel
theorem dX2_remove_5 : decode cX2_remove 5 = .ok (.ifCond .ne 4, 3) := by decide +kernel
theorem dX2_remove_8 : decode cX2_remove 8 = .ok (.return_, 1) := by decide +kernel
theorem dX2_remove_9 : decode cX2_remove 9 = .ok (.iload_n 1, 1) := by decide +kernel
theorem dX2_remove_10 : decode cX2_remove 10 = .ok (.istore_n 2, 1) := by decide +kernel
theorem dX2_remove_11 : decode cX2_remove 11 = .ok (.iload_n 2, 1) := by decide +kernel
theorem dX2_remove_12 : decode cX2_remove 12 = .ok (.iconst 2, 1) := by decide +kernel
theorem dX2_remove_13 : decode cX2_remove 13 = .ok (.if_icmp .ge 37, 3) := by decide +kernel
theorem dX2_remove_16 : decode cX2_remove 16 = .ok (.aload_n 0, 1) := by decide +kernel
theorem dX2_remove_17 : decode cX2_remove 17 = .ok (.getfield 36, 3) := by decide +kernel
theorem dX2_remove_20 : decode cX2_remove 20 = .ok (.iload_n 2, 1) := by decide +kernel
theorem dX2_remove_21 : decode cX2_remove 21 = .ok (.aload_n 0, 1) := by decide +kernel
theorem dX2_remove_22 : decode cX2_remove 22 = .ok (.getfield 36, 3) := by decide +kernel
theorem dX2_remove_25 : decode cX2_remove 25 = .ok (.iload_n 2, 1) := by decide +kernel
theorem dX2_remove_26 : decode cX2_remove 26 = .ok (.iconst 1, 1) := by decide +kernel
theorem dX2_remove_27 : decode cX2_remove 27 = .ok (.iadd, 1) := by decide +kernel
theorem dX2_remove_28 : decode cX2_remove 28 = .ok (.iaload, 1) := by decide +kernel
theorem dX2_remove_29 : decode cX2_remove 29 = .ok (.iastore, 1) := by decide +kernel
theorem dX2_remove_30 : decode cX2_remove 30 = .ok (.aload_n 0, 1) := by decide +kernel
theorem dX2_remove_31 : decode cX2_remove 31 = .ok (.getfield 40, 3) := by decide +kernel
theorem dX2_remove_34 : decode cX2_remove 34 = .ok (.iload_n 2, 1) := by decide +kernel
theorem dX2_remove_35 : decode cX2_remove 35 = .ok (.aload_n 0, 1) := by decide +kernel
theorem dX2_remove_36 : decode cX2_remove 36 = .ok (.getfield 40, 3) := by decide +kernel
theorem dX2_remove_39 : decode cX2_remove 39 = .ok (.iload_n 2, 1) := by decide +kernel
theorem dX2_remove_40 : decode cX2_remove 40 = .ok (.iconst 1, 1) := by decide +kernel
theorem dX2_remove_41 : decode cX2_remove 41 = .ok (.iadd, 1) := by decide +kernel
theorem dX2_remove_42 : decode cX2_remove 42 = .ok (.iaload, 1) := by decide +kernel
theorem dX2_remove_43 : decode cX2_remove 43 = .ok (.iastore, 1) := by decide +kernel
theorem dX2_remove_44 : decode cX2_remove 44 = .ok (.iinc 2 1, 3) := by decide +kernel
theorem dX2_remove_47 : decode cX2_remove 47 = .ok (.goto (-36), 3) := by decide +kernel
theorem dX2_remove_50 : decode cX2_remove 50 = .ok (.aload_n 0, 1) := by decide +kernel
theorem dX2_remove_51 : decode cX2_remove 51 = .ok (.getfield 36, 3) := by decide +kernel
theorem dX2_remove_54 : decode cX2_remove 54 = .ok (.iconst 2, 1) := by decide +kernel
theorem dX2_remove_55 : decode cX2_remove 55 = .ok (.iconst 0, 1) := by decide +kernel
theorem dX2_remove_56 : decode cX2_remove 56 = .ok (.iastore, 1) := by decide +kernel
theorem dX2_remove_57 : decode cX2_remove 57 = .ok (.aload_n 0, 1) := by decide +kernel
theorem dX2_remove_58 : decode cX2_remove 58 = .ok (.getfield 40, 3) := by decide +kernel
theorem dX2_remove_61 : decode cX2_remove 61 = .ok (.iconst 2, 1) := by decide +kernel
theorem dX2_remove_62 : decode cX2_remove 62 = .ok (.iconst 0, 1) := by decide +kernel
theorem dX2_remove_63 : decode cX2_remove 63 = .ok (.iastore, 1) := by decide +kernel
theorem dX2_remove_64 : decode cX2_remove 64 = .ok (.aload_n 0, 1) := by decide +kernel
theorem dX2_remove_65 : decode cX2_remove 65 = .ok (.dup, 1) := by decide +kernel
theorem dX2_remove_66 : decode cX2_remove 66 = .ok (.getfield 33, 3) := by decide +kernel
theorem dX2_remove_69 : decode cX2_remove 69 = .ok (.iconst 1, 1) := by decide +kernel
theorem dX2_remove_70 : decode cX2_remove 70 = .ok (.isub, 1) := by decide +kernel
theorem dX2_remove_71 : decode cX2_remove 71 = .ok (.putfield 33, 3) := by decide +kernel
theorem dX2_remove_74 : decode cX2_remove 74 = .ok (.return_, 1) := by decide +kernel
theorem dX2_removeAll_0 : decode cX2_removeAll 0 = .ok (.iconst 0, 1) := by decide +kernel
theorem dX2_removeAll_1 : decode cX2_removeAll 1 = .ok (.istore_n 1, 1) := by decide +kernel
theorem dX2_removeAll_2 : decode cX2_removeAll 2 = .ok (.iload_n 1, 1) := by decide +kernel
theorem dX2_removeAll_3 : decode cX2_removeAll 3 = .ok (.iconst 3, 1) := by decide +kernel
theorem dX2_removeAll_4 : decode cX2_removeAll 4 = .ok (.if_icmp .ge 23, 3) := by decide +kernel
theorem dX2_removeAll_7 : decode cX2_removeAll 7 = .ok (.aload_n 0, 1) := by decide +kernel
theorem dX2_removeAll_8 : decode cX2_removeAll 8 = .ok (.getfield 36, 3) := by decide +kernel
theorem dX2_removeAll_11 : decode cX2_removeAll 11 = .ok (.iload_n 1, 1) := by decide +kernel
theorem dX2_removeAll_12 : decode cX2_removeAll 12 = .ok (.iconst 0, 1) := by decide +kernel
theorem dX2_removeAll_13 : decode cX2_removeAll 13 = .ok (.iastore, 1) := by decide +kernel
theorem dX2_removeAll_14 : decode cX2_removeAll 14 = .ok (.aload_n 0, 1) := by decide +kernel
theorem dX2_removeAll_15 : decode cX2_removeAll 15 = .ok (.getfield 40, 3) := by decide +kernel
theorem dX2_removeAll_18 : decode cX2_removeAll 18 = .ok (.iload_n 1, 1) := by decide +kernel
theorem dX2_removeAll_19 : decode cX2_removeAll 19 = .ok (.iconst 0, 1) := by decide +kernel
theorem dX2_removeAll_20 : decode cX2_removeAll 20 = .ok (.iastore, 1) := by decide +kernel
theorem dX2_removeAll_21 : decode cX2_removeAll 21 = .ok (.iinc 1 1, 3) := by decide +kernel
theorem dX2_removeAll_24 : decode cX2_removeAll 24 = .ok (.goto (-22), 3) := by decide +kernel
theorem dX2_removeAll_27 : decode cX2_removeAll 27 = .ok (.aload_n 0, 1) := by decide +kernel
theorem dX2_removeAll_28 : decode cX2_removeAll 28 = .ok (.iconst 0, 1) := by decide +kernel
theorem dX2_removeAll_29 : decode cX2_removeAll 29 = .ok (.putfield 33, 3) := by decide +kernel
theorem dX2_removeAll_32 : decode cX2_removeAll 32 = .ok (.return_, 1) := by decide +kernel
theorem dX2_load_0 : decode cX2_load 0 = .ok (.aload_n 0, 1) := by decide +kernel
theorem dX2_load_1 : decode cX2_load 1 = .ok (.getfield 18, 3) := by decide +kernel
theorem dX2_load_4 : decode cX2_load 4 = .ok (.istore_n 1, 1) := by decide +kernel
theorem dX2_load_5 : decode cX2_load 5 = .ok (.iconst 0, 1) := by decide +kernel
theorem dX2_load_6 : decode cX2_load 6 = .ok (.istore_n 2, 1) := by decide +kernel
theorem dX2_load_7 : decode cX2_load 7 = .ok (.iload_n 2, 1) := by decide +kernel
theorem dX2_load_8 : decode cX2_load 8 = .ok (.iconst 3, 1) := by decide +kernel
theorem dX2_load_9 : decode cX2_load 9 = .ok (.if_icmp .ge 18, 3) := by decide +kernel
theorem dX2_load_12 : decode cX2_load 12 = .ok (.iload_n 1, 1) := by decide +kernel
theorem dX2_load_13 : decode cX2_load 13 = .ok (.aload_n 0, 1) := by decide +kernel
theorem dX2_load_14 : decode cX2_load 14 = .ok (.getfield 36, 3) := by decide +kernel
theorem dX2_load_17 : decode cX2_load 17 = .ok (.iload_n 2, 1) := by decide +kernel
theorem dX2_load_18 : decode cX2_load 18 = .ok (.iaload, 1) := by decide +kernel
theorem dX2_load_19 : decode cX2_load 19 = .ok (.iadd, 1) := by decide +kernel
theorem dX2_load_20 : decode cX2_load 20 = .ok (.istore_n 1, 1) := by decide +kernel
theorem dX2_load_21 : decode cX2_load 21 = .ok (.iinc 2 1, 3) := by decide +kernel
theorem dX2_load_24 : decode cX2_load 24 = .ok (.goto (-17), 3) := by decide +kernel
theorem dX2_load_27 : decode cX2_load 27 = .ok (.iload_n 1, 1) := by decide +kernel
theorem dX2_load_28 : decode cX2_load 28 = .ok (.ireturn, 1) := by decide +kernel
theorem dX2_moment_0 : decode cX2_moment 0 = .ok (.iconst 5, 1) := by decide +kernel
theorem dX2_moment_1 : decode cX2_moment 1 = .ok (.aload_n 0, 1) := by decide +kernel
theorem dX2_moment_2 : decode cX2_moment 2 = .ok (.getfield 18, 3) := by decide +kernel
theorem dX2_moment_5 : decode cX2_moment 5 = .ok (.imul, 1) := by decide +kernel
theorem dX2_moment_6 : decode cX2_moment 6 = .ok (.istore_n 1, 1) := by decide +kernel
theorem dX2_moment_7 : decode cX2_moment 7 = .ok (.iconst 0, 1) := by decide +kernel
theorem dX2_moment_8 : decode cX2_moment 8 = .ok (.istore_n 2, 1) := by decide +kernel
theorem dX2_moment_9 : decode cX2_moment 9 = .ok (.iload_n 2, 1) := by decide +kernel
theorem dX2_moment_10 : decode cX2_moment 10 = .ok (.iconst 3, 1) := by decide +kernel
theorem dX2_moment_11 : decode cX2_moment 11 = .ok (.if_icmp .ge 25, 3) := by decide +kernel
theorem dX2_moment_14 : decode cX2_moment 14 = .ok (.iload_n 1, 1) := by decide +kernel
theorem dX2_moment_15 : decode cX2_moment 15 = .ok (.aload_n 0, 1) := by decide +kernel
theorem dX2_moment_16 : decode cX2_moment 16 = .ok (.getfield 40, 3) := by decide +kernel
theorem dX2_moment_19 : decode cX2_moment 19 = .ok (.iload_n 2, 1) := by decide +kernel
theorem dX2_moment_20 : decode cX2_moment 20 = .ok (.iaload, 1) := by decide +kernel
theorem dX2_moment_21 : decode cX2_moment 21 = .ok (.aload_n 0, 1) := by decide +kernel
theorem dX2_moment_22 : decode cX2_moment 22 = .ok (.getfield 36, 3) := by decide +kernel
theorem dX2_moment_25 : decode cX2_moment 25 = .ok (.iload_n 2, 1) := by decide +kernel
theorem dX2_moment_26 : decode cX2_moment 26 = .ok (.iaload, 1) := by decide +kernel
theorem dX2_moment_27 : decode cX2_moment 27 = .ok (.imul, 1) := by decide +kernel
theorem dX2_moment_28 : decode cX2_moment 28 = .ok (.iadd, 1) := by decide +kernel
theorem dX2_moment_29 : decode cX2_moment 29 = .ok (.istore_n 1, 1) := by decide +kernel
theorem dX2_moment_30 : decode cX2_moment 30 = .ok (.iinc 2 1, 3) := by decide +kernel
theorem dX2_moment_33 : decode cX2_moment 33 = .ok (.goto (-24), 3) := by decide +kernel
theorem dX2_moment_36 : decode cX2_moment 36 = .ok (.aload_n 0, 1) := by decide +kernel
theorem dX2_moment_37 : decode cX2_moment 37 = .ok (.getfield 9, 3) := by decide +kernel
theorem dX2_moment_40 : decode cX2_moment 40 = .ok (.iload_n 1, 1) := by decide +kernel
theorem dX2_moment_41 : decode cX2_moment 41 = .ok (.imul, 1) := by decide +kernel
theorem dX2_moment_42 : decode cX2_moment 42 = .ok (.ireturn, 1) := by decide +kernel
set_option maxRecDepth 20000 in
theorem ggX2_push_X2_moment : GoodIn wsX2_push wsX2_moment := goodIn_r _ [6, 7, 8, 9, 1, 10, 11, 12, 13, 14, 15, 16, 17, 18, 19] (by decide +kernel) (by decide +kernel)
set_option maxRecDepth 20000 in
theorem gX2_push_X2_moment : GoodIn wsX2_push (wsV RX2 47 RX2 yX2_moment wsX2_moment) := goodIn_app (goodIn_of _ (by decide +kernel)) ggX2_push_X2_moment
theorem dX2_push_0 : decode cX2_push 0 = .ok (.aload_n 0, 1) := by decide +kernel
theorem dX2_push_1 : decode cX2_push 1 = .ok (.invokevirtual 47, 3) := by decide +kernel
theorem dX2_push_4 : decode cX2_push 4 = .ok (.bipush 10, 2) := by decide +kernel
theorem dX2_push_6 : decode cX2_push 6 = .ok (.iload_n 1, 1) := by decide +kernel
theorem dX2_push_7 : decode cX2_push 7 = .ok (.imul, 1) := by decide +kernel
theorem dX2_push_8 : decode cX2_push 8 = .ok (.aload_n 0, 1) := by decide +kernel
theorem dX2_push_9 : decode cX2_push 9 = .ok (.getfield 9, 3) := by decide +kernel
theorem dX2_push_12 : decode cX2_push 12 = .ok (.imul, 1) := by decide +kernel
theorem dX2_push_13 : decode cX2_push 13 = .ok (.isub, 1) := by decide +kernel
theorem dX2_push_14 : decode cX2_push 14 = .ok (.ireturn, 1) := by decide +kernel
set_option maxRecDepth 20000 in
theorem ggX2_whatGivesWay_X2_push : GoodIn wsX2_whatGivesWay wsX2_push := goodIn_r _ [12, 13, 14, 15, 16, 11, 17, 18, 19, 20, 34, 35, 36, 37, 38, 39, 40, 41, 42, 43] (by decide +kernel) (by decide +kernel)
set_option maxRecDepth 20000 in
theorem gX2_whatGivesWay_X2_push : GoodIn wsX2_whatGivesWay (wsV RX2 51 RX2 yX2_push wsX2_push) := goodIn_app (goodIn_of _ (by decide +kernel)) ggX2_whatGivesWay_X2_push
set_option maxRecDepth 20000 in
theorem ggX2_whatGivesWay_X2_load : GoodIn wsX2_whatGivesWay wsX2_load := goodIn_r _ [24, 18, 20, 34, 35, 36, 37, 38, 39, 40, 41, 42, 43] (by decide +kernel) (by decide +kernel)
set_option maxRecDepth 20000 in
theorem gX2_whatGivesWay_X2_load : GoodIn wsX2_whatGivesWay (wsV RX2 55 RX2 yX2_load wsX2_load) := goodIn_app (goodIn_of _ (by decide +kernel)) ggX2_whatGivesWay_X2_load
set_option maxRecDepth 20000 in
theorem ggX2_whatGivesWay_X2_wallPercents : GoodIn wsX2_whatGivesWay wsX2_wallPercents := goodIn_r _ [28, 6, 34, 35, 36, 37, 38, 39, 40, 41, 42, 43] (by decide +kernel) (by decide +kernel)
set_option maxRecDepth 20000 in
theorem gX2_whatGivesWay_X2_wallPercents : GoodIn wsX2_whatGivesWay (wsV RX2 63 RX2 yX2_wallPercents wsX2_wallPercents) := goodIn_app (goodIn_of _ (by decide +kernel)) ggX2_whatGivesWay_X2_wallPercents
set_option maxRecDepth 20000 in
theorem ggX2_whatGivesWay_X2_groundPercents : GoodIn wsX2_whatGivesWay wsX2_groundPercents := goodIn_r _ [32, 33, 34, 35, 36, 37, 38, 39, 40, 41, 42, 43] (by decide +kernel) (by decide +kernel)
set_option maxRecDepth 20000 in
theorem gX2_whatGivesWay_X2_groundPercents : GoodIn wsX2_whatGivesWay (wsV RX2 66 RX2 yX2_groundPercents wsX2_groundPercents) := goodIn_app (goodIn_of _ (by decide +kernel)) ggX2_whatGivesWay_X2_groundPercents
theorem dX2_whatGivesWay_0 : decode cX2_whatGivesWay 0 = .ok (.aload_n 0, 1) := by decide +kernel
theorem dX2_whatGivesWay_1 : decode cX2_whatGivesWay 1 = .ok (.iload_n 1, 1) := by decide +kernel
theorem dX2_whatGivesWay_2 : decode cX2_whatGivesWay 2 = .ok (.invokevirtual 51, 3) := by decide +kernel
theorem dX2_whatGivesWay_5 : decode cX2_whatGivesWay 5 = .ok (.istore_n 2, 1) := by decide +kernel
theorem dX2_whatGivesWay_6 : decode cX2_whatGivesWay 6 = .ok (.aload_n 0, 1) := by decide +kernel
theorem dX2_whatGivesWay_7 : decode cX2_whatGivesWay 7 = .ok (.invokevirtual 55, 3) := by decide +kernel
theorem dX2_whatGivesWay_10 : decode cX2_whatGivesWay 10 = .ok (.istore_n 3, 1) := by decide +kernel
theorem dX2_whatGivesWay_11 : decode cX2_whatGivesWay 11 = .ok (.iload_n 2, 1) := by decide +kernel
theorem dX2_whatGivesWay_12 : decode cX2_whatGivesWay 12 = .ok (.ifCond .ge 7, 3) := by decide +kernel
theorem dX2_whatGivesWay_15 : decode cX2_whatGivesWay 15 = .ok (.iconst 1, 1) := by decide +kernel
theorem dX2_whatGivesWay_16 : decode cX2_whatGivesWay 16 = .ok (.goto 4, 3) := by decide +kernel
theorem dX2_whatGivesWay_19 : decode cX2_whatGivesWay 19 = .ok (.iconst 0, 1) := by decide +kernel
theorem dX2_whatGivesWay_20 : decode cX2_whatGivesWay 20 = .ok (.istore 4, 2) := by decide +kernel
theorem dX2_whatGivesWay_22 : decode cX2_whatGivesWay 22 = .ok (.sipush 1000, 3) := by decide +kernel
theorem dX2_whatGivesWay_25 : decode cX2_whatGivesWay 25 = .ok (.aload_n 0, 1) := by decide +kernel
theorem dX2_whatGivesWay_26 : decode cX2_whatGivesWay 26 = .ok (.getfield 15, 3) := by decide +kernel
theorem dX2_whatGivesWay_29 : decode cX2_whatGivesWay 29 = .ok (.imul, 1) := by decide +kernel
theorem dX2_whatGivesWay_30 : decode cX2_whatGivesWay 30 = .ok (.iload_n 1, 1) := by decide +kernel
theorem dX2_whatGivesWay_31 : decode cX2_whatGivesWay 31 = .ok (.invokestatic 58, 3) := by decide +kernel
theorem dX2_whatGivesWay_34 : decode cX2_whatGivesWay 34 = .ok (.imul, 1) := by decide +kernel
theorem dX2_whatGivesWay_35 : decode cX2_whatGivesWay 35 = .ok (.aload_n 0, 1) := by decide +kernel
theorem dX2_whatGivesWay_36 : decode cX2_whatGivesWay 36 = .ok (.invokevirtual 63, 3) := by decide +kernel
theorem dX2_whatGivesWay_39 : decode cX2_whatGivesWay 39 = .ok (.iload_n 2, 1) := by decide +kernel
theorem dX2_whatGivesWay_40 : decode cX2_whatGivesWay 40 = .ok (.imul, 1) := by decide +kernel
theorem dX2_whatGivesWay_41 : decode cX2_whatGivesWay 41 = .ok (.if_icmp .gt 15, 3) := by decide +kernel
theorem dX2_whatGivesWay_44 : decode cX2_whatGivesWay 44 = .ok (.aload_n 0, 1) := by decide +kernel
theorem dX2_whatGivesWay_45 : decode cX2_whatGivesWay 45 = .ok (.getfield 24, 3) := by decide +kernel
theorem dX2_whatGivesWay_48 : decode cX2_whatGivesWay 48 = .ok (.iconst 3, 1) := by decide +kernel
theorem dX2_whatGivesWay_49 : decode cX2_whatGivesWay 49 = .ok (.if_icmp .ne 13, 3) := by decide +kernel
theorem dX2_whatGivesWay_52 : decode cX2_whatGivesWay 52 = .ok (.iload_n 1, 1) := by decide +kernel
theorem dX2_whatGivesWay_53 : decode cX2_whatGivesWay 53 = .ok (.ifCond .ge 9, 3) := by decide +kernel
theorem dX2_whatGivesWay_56 : decode cX2_whatGivesWay 56 = .ok (.iload 4, 2) := by decide +kernel
theorem dX2_whatGivesWay_58 : decode cX2_whatGivesWay 58 = .ok (.iconst 2, 1) := by decide +kernel
theorem dX2_whatGivesWay_59 : decode cX2_whatGivesWay 59 = .ok (.ior, 1) := by decide +kernel
theorem dX2_whatGivesWay_60 : decode cX2_whatGivesWay 60 = .ok (.istore 4, 2) := by decide +kernel
theorem dX2_whatGivesWay_62 : decode cX2_whatGivesWay 62 = .ok (.iload_n 1, 1) := by decide +kernel
theorem dX2_whatGivesWay_63 : decode cX2_whatGivesWay 63 = .ok (.iload_n 3, 1) := by decide +kernel
theorem dX2_whatGivesWay_64 : decode cX2_whatGivesWay 64 = .ok (.if_icmp .le 9, 3) := by decide +kernel
theorem dX2_whatGivesWay_67 : decode cX2_whatGivesWay 67 = .ok (.iload 4, 2) := by decide +kernel
theorem dX2_whatGivesWay_69 : decode cX2_whatGivesWay 69 = .ok (.iconst 4, 1) := by decide +kernel
theorem dX2_whatGivesWay_70 : decode cX2_whatGivesWay 70 = .ok (.ior, 1) := by decide +kernel
theorem dX2_whatGivesWay_71 : decode cX2_whatGivesWay 71 = .ok (.istore 4, 2) := by decide +kernel
theorem dX2_whatGivesWay_73 : decode cX2_whatGivesWay 73 = .ok (.bipush 100, 2) := by decide +kernel
theorem dX2_whatGivesWay_75 : decode cX2_whatGivesWay 75 = .ok (.iload_n 2, 1) := by decide +kernel
theorem dX2_whatGivesWay_76 : decode cX2_whatGivesWay 76 = .ok (.imul, 1) := by decide +kernel
theorem dX2_whatGivesWay_77 : decode cX2_whatGivesWay 77 = .ok (.bipush 10, 2) := by decide +kernel
theorem dX2_whatGivesWay_79 : decode cX2_whatGivesWay 79 = .ok (.aload_n 0, 1) := by decide +kernel
theorem dX2_whatGivesWay_80 : decode cX2_whatGivesWay 80 = .ok (.getfield 15, 3) := by decide +kernel
theorem dX2_whatGivesWay_83 : decode cX2_whatGivesWay 83 = .ok (.imul, 1) := by decide +kernel
theorem dX2_whatGivesWay_84 : decode cX2_whatGivesWay 84 = .ok (.aload_n 0, 1) := by decide +kernel
theorem dX2_whatGivesWay_85 : decode cX2_whatGivesWay 85 = .ok (.invokevirtual 66, 3) := by decide +kernel
theorem dX2_whatGivesWay_88 : decode cX2_whatGivesWay 88 = .ok (.iload_n 3, 1) := by decide +kernel
theorem dX2_whatGivesWay_89 : decode cX2_whatGivesWay 89 = .ok (.iload_n 1, 1) := by decide +kernel
theorem dX2_whatGivesWay_90 : decode cX2_whatGivesWay 90 = .ok (.isub, 1) := by decide +kernel
theorem dX2_whatGivesWay_91 : decode cX2_whatGivesWay 91 = .ok (.imul, 1) := by decide +kernel
theorem dX2_whatGivesWay_92 : decode cX2_whatGivesWay 92 = .ok (.bipush 100, 2) := by decide +kernel
theorem dX2_whatGivesWay_94 : decode cX2_whatGivesWay 94 = .ok (.aload_n 0, 1) := by decide +kernel
theorem dX2_whatGivesWay_95 : decode cX2_whatGivesWay 95 = .ok (.getfield 27, 3) := by decide +kernel
theorem dX2_whatGivesWay_98 : decode cX2_whatGivesWay 98 = .ok (.imul, 1) := by decide +kernel
theorem dX2_whatGivesWay_99 : decode cX2_whatGivesWay 99 = .ok (.iadd, 1) := by decide +kernel
theorem dX2_whatGivesWay_100 : decode cX2_whatGivesWay 100 = .ok (.imul, 1) := by decide +kernel
theorem dX2_whatGivesWay_101 : decode cX2_whatGivesWay 101 = .ok (.if_icmp .le 10, 3) := by decide +kernel
theorem dX2_whatGivesWay_104 : decode cX2_whatGivesWay 104 = .ok (.iload 4, 2) := by decide +kernel
theorem dX2_whatGivesWay_106 : decode cX2_whatGivesWay 106 = .ok (.bipush 8, 2) := by decide +kernel
theorem dX2_whatGivesWay_108 : decode cX2_whatGivesWay 108 = .ok (.ior, 1) := by decide +kernel
theorem dX2_whatGivesWay_109 : decode cX2_whatGivesWay 109 = .ok (.istore 4, 2) := by decide +kernel
theorem dX2_whatGivesWay_111 : decode cX2_whatGivesWay 111 = .ok (.iload 4, 2) := by decide +kernel
theorem dX2_whatGivesWay_113 : decode cX2_whatGivesWay 113 = .ok (.ireturn, 1) := by decide +kernel
set_option maxRecDepth 20000 in
theorem ggX2_stands_X2_leastForce : GoodIn wsX2_stands wsX2_leastForce := goodIn_r _ [5, 6, 7, 8, 9, 10, 11, 12, 4, 13, 14, 15, 16, 17, 18, 19, 20, 21, 22, 23, 24, 25, 26, 27, 28, 29, 30, 31, 32, 33, 34, 35, 36, 37, 38, 39, 40, 41, 42, 43, 44, 45, 50, 51, 52, 53, 54, 55, 56, 57, 58, 59] (by decide +kernel) (by decide +kernel)
set_option maxRecDepth 20000 in
theorem gX2_stands_X2_leastForce : GoodIn wsX2_stands (wsV RX2 69 RX2 yX2_leastForce wsX2_leastForce) := goodIn_app (goodIn_of _ (by decide +kernel)) ggX2_stands_X2_leastForce
set_option maxRecDepth 20000 in
theorem ggX2_stands_X2_greatestForce : GoodIn wsX2_stands wsX2_greatestForce := goodIn_r _ [49, 15, 16, 17, 18, 19, 4, 20, 14, 21, 22, 23, 24, 25, 26, 27, 28, 29, 30, 31, 50, 51, 52, 53, 54, 55, 56, 57, 58, 59] (by decide +kernel) (by decide +kernel)
set_option maxRecDepth 20000 in
theorem gX2_stands_X2_greatestForce : GoodIn wsX2_stands (wsV RX2 72 RX2 yX2_greatestForce wsX2_greatestForce) := goodIn_app (goodIn_of _ (by decide +kernel)) ggX2_stands_X2_greatestForce
theorem dX2_stands_0 : decode cX2_stands 0 = .ok (.aload_n 0, 1) := by decide +kernel
theorem dX2_stands_1 : decode cX2_stands 1 = .ok (.invokevirtual 69, 3) := by decide +kernel
theorem dX2_stands_4 : decode cX2_stands 4 = .ok (.aload_n 0, 1) := by decide +kernel
theorem dX2_stands_5 : decode cX2_stands 5 = .ok (.invokevirtual 72, 3) := by decide +kernel
theorem dX2_stands_8 : decode cX2_stands 8 = .ok (.if_icmp .gt 7, 3) := by decide +kernel
theorem dX2_stands_11 : decode cX2_stands 11 = .ok (.iconst 1, 1) := by decide +kernel
theorem dX2_stands_12 : decode cX2_stands 12 = .ok (.goto 4, 3) := by decide +kernel
theorem dX2_stands_15 : decode cX2_stands 15 = .ok (.iconst 0, 1) := by decide +kernel
theorem dX2_stands_16 : decode cX2_stands 16 = .ok (.ireturn, 1) := by decide +kernel
set_option maxRecDepth 20000 in
theorem ggX2_forces_X2_greatestForce : GoodIn wsX2_forces wsX2_greatestForce := goodIn_r _ [9, 10, 11, 12, 13, 14, 8, 15, 16, 17, 18, 19, 20, 21, 22, 23, 24, 25, 26, 27, 50, 51, 52, 53, 54, 55, 56, 57, 58, 59] (by decide +kernel) (by decide +kernel)
set_option maxRecDepth 20000 in
theorem gX2_forces_X2_greatestForce : GoodIn wsX2_forces (wsV RX2 72 RX2 yX2_greatestForce wsX2_greatestForce) := goodIn_app (goodIn_of _ (by decide +kernel)) ggX2_forces_X2_greatestForce
set_option maxRecDepth 20000 in
theorem ggX2_forces_X2_leastForce : GoodIn wsX2_forces wsX2_leastForce := goodIn_r _ [31, 1, 2, 3, 4, 32, 33, 34, 8, 35, 16, 10, 11, 12, 13, 14, 15, 17, 18, 19, 20, 21, 22, 23, 24, 25, 26, 27, 36, 37, 38, 39, 40, 41, 42, 43, 44, 45, 46, 47, 48, 49, 50, 51, 52, 53, 54, 55, 56, 57, 58, 59] (by decide +kernel) (by decide +kernel)
set_option maxRecDepth 20000 in
theorem gX2_forces_X2_leastForce : GoodIn wsX2_forces (wsV RX2 69 RX2 yX2_leastForce wsX2_leastForce) := goodIn_app (goodIn_of _ (by decide +kernel)) ggX2_forces_X2_leastForce
theorem dX2_forces_0 : decode cX2_forces 0 = .ok (.iconst 0, 1) := by decide +kernel
theorem dX2_forces_1 : decode cX2_forces 1 = .ok (.aload_n 0, 1) := by decide +kernel
theorem dX2_forces_2 : decode cX2_forces 2 = .ok (.invokevirtual 72, 3) := by decide +kernel
theorem dX2_forces_5 : decode cX2_forces 5 = .ok (.aload_n 0, 1) := by decide +kernel
theorem dX2_forces_6 : decode cX2_forces 6 = .ok (.invokevirtual 69, 3) := by decide +kernel
theorem dX2_forces_9 : decode cX2_forces 9 = .ok (.isub, 1) := by decide +kernel
theorem dX2_forces_10 : decode cX2_forces 10 = .ok (.iconst 1, 1) := by decide +kernel
theorem dX2_forces_11 : decode cX2_forces 11 = .ok (.iadd, 1) := by decide +kernel
theorem dX2_forces_12 : decode cX2_forces 12 = .ok (.invokestatic 75, 3) := by decide +kernel
theorem dX2_forces_15 : decode cX2_forces 15 = .ok (.ireturn, 1) := by decide +kernel
set_option maxRecDepth 20000 in
theorem ggX2_nearestForce_X2_leastForce : GoodIn wsX2_nearestForce wsX2_leastForce := goodIn_r _ [12, 5, 6, 3, 7, 13, 14, 15, 11, 16, 17, 18, 19, 20, 21, 22, 23, 24, 25, 26, 27, 28, 29, 30, 31, 32, 33, 34, 35, 36, 37, 38, 39, 40, 41, 42, 43, 44, 45, 46, 47, 48, 53, 54, 55, 56, 57, 58, 59, 60, 61, 62] (by decide +kernel) (by decide +kernel)
set_option maxRecDepth 20000 in
theorem gX2_nearestForce_X2_leastForce : GoodIn wsX2_nearestForce (wsV RX2 69 RX2 yX2_leastForce wsX2_leastForce) := goodIn_app (goodIn_of _ (by decide +kernel)) ggX2_nearestForce_X2_leastForce
set_option maxRecDepth 20000 in
theorem ggX2_nearestForce_X2_greatestForce : GoodIn wsX2_nearestForce wsX2_greatestForce := goodIn_r _ [52, 18, 19, 20, 21, 22, 11, 23, 17, 24, 25, 26, 27, 28, 29, 30, 31, 32, 33, 34, 53, 54, 55, 56, 57, 58, 59, 60, 61, 62] (by decide +kernel) (by decide +kernel)
set_option maxRecDepth 20000 in
theorem gX2_nearestForce_X2_greatestForce : GoodIn wsX2_nearestForce (wsV RX2 72 RX2 yX2_greatestForce wsX2_greatestForce) := goodIn_app (goodIn_of _ (by decide +kernel)) ggX2_nearestForce_X2_greatestForce
theorem dX2_nearestForce_0 : decode cX2_nearestForce 0 = .ok (.aload_n 0, 1) := by decide +kernel
theorem dX2_nearestForce_1 : decode cX2_nearestForce 1 = .ok (.invokevirtual 69, 3) := by decide +kernel
theorem dX2_nearestForce_4 : decode cX2_nearestForce 4 = .ok (.iconst 0, 1) := by decide +kernel
theorem dX2_nearestForce_5 : decode cX2_nearestForce 5 = .ok (.aload_n 0, 1) := by decide +kernel
theorem dX2_nearestForce_6 : decode cX2_nearestForce 6 = .ok (.invokevirtual 72, 3) := by decide +kernel
theorem dX2_nearestForce_9 : decode cX2_nearestForce 9 = .ok (.invokestatic 79, 3) := by decide +kernel
theorem dX2_nearestForce_12 : decode cX2_nearestForce 12 = .ok (.invokestatic 75, 3) := by decide +kernel
theorem dX2_nearestForce_15 : decode cX2_nearestForce 15 = .ok (.ireturn, 1) := by decide +kernel
set_option maxRecDepth 20000 in
theorem ggX2_leastForce_X2_leastByWall : GoodIn wsX2_leastForce wsX2_leastByWall := goodIn_r _ [9, 10, 11, 12, 13, 14, 15, 8, 16, 17, 18, 19, 20, 21, 22, 23, 24, 25, 26, 27, 42, 43, 44, 45, 46, 47, 48, 49, 50, 51] (by decide +kernel) (by decide +kernel)
set_option maxRecDepth 20000 in
theorem gX2_leastForce_X2_leastByWall : GoodIn wsX2_leastForce (wsV RX2 82 RX2 yX2_leastByWall wsX2_leastByWall) := goodIn_app (goodIn_of _ (by decide +kernel)) ggX2_leastForce_X2_leastByWall
set_option maxRecDepth 20000 in
theorem ggX2_leastForce_X2_leastByGround : GoodIn wsX2_leastForce wsX2_leastByGround := goodIn_r _ [31, 11, 12, 32, 33, 34, 35, 8, 36, 37, 38, 39, 40, 41, 21, 23, 17, 18, 19, 20, 22, 24, 25, 26, 27, 42, 43, 44, 45, 46, 47, 48, 49, 50, 51] (by decide +kernel) (by decide +kernel)
set_option maxRecDepth 20000 in
theorem gX2_leastForce_X2_leastByGround : GoodIn wsX2_leastForce (wsV RX2 85 RX2 yX2_leastByGround wsX2_leastByGround) := goodIn_app (goodIn_of _ (by decide +kernel)) ggX2_leastForce_X2_leastByGround
theorem dX2_leastForce_0 : decode cX2_leastForce 0 = .ok (.sipush (-1000), 3) := by decide +kernel
theorem dX2_leastForce_3 : decode cX2_leastForce 3 = .ok (.aload_n 0, 1) := by decide +kernel
theorem dX2_leastForce_4 : decode cX2_leastForce 4 = .ok (.invokevirtual 82, 3) := by decide +kernel
theorem dX2_leastForce_7 : decode cX2_leastForce 7 = .ok (.aload_n 0, 1) := by decide +kernel
theorem dX2_leastForce_8 : decode cX2_leastForce 8 = .ok (.invokevirtual 85, 3) := by decide +kernel
theorem dX2_leastForce_11 : decode cX2_leastForce 11 = .ok (.invokestatic 75, 3) := by decide +kernel
theorem dX2_leastForce_14 : decode cX2_leastForce 14 = .ok (.invokestatic 75, 3) := by decide +kernel
theorem dX2_leastForce_17 : decode cX2_leastForce 17 = .ok (.ireturn, 1) := by decide +kernel
set_option maxRecDepth 20000 in
theorem ggX2_greatestForce_X2_wallPercents : GoodIn wsX2_greatestForce wsX2_wallPercents := goodIn_r _ [7, 8, 20, 21, 22, 23, 24, 25, 26, 27, 28, 29] (by decide +kernel) (by decide +kernel)
set_option maxRecDepth 20000 in
theorem gX2_greatestForce_X2_wallPercents : GoodIn wsX2_greatestForce (wsV RX2 63 RX2 yX2_wallPercents wsX2_wallPercents) := goodIn_app (goodIn_of _ (by decide +kernel)) ggX2_greatestForce_X2_wallPercents
set_option maxRecDepth 20000 in
theorem ggX2_greatestForce_X2_moment : GoodIn wsX2_greatestForce wsX2_moment := goodIn_r _ [12, 13, 14, 15, 2, 20, 21, 22, 23, 24, 25, 26, 27, 28, 29] (by decide +kernel) (by decide +kernel)
set_option maxRecDepth 20000 in
theorem gX2_greatestForce_X2_moment : GoodIn wsX2_greatestForce (wsV RX2 47 RX2 yX2_moment wsX2_moment) := goodIn_app (goodIn_of _ (by decide +kernel)) ggX2_greatestForce_X2_moment
set_option maxRecDepth 20000 in
theorem ggX2_greatestForce_J9_floorDiv_7cf53 : GoodIn wsX2_greatestForce wsJ9_floorDiv_7cf53 := goodIn_r _ [19] (by decide +kernel) (by decide +kernel)
set_option maxRecDepth 20000 in
theorem gX2_greatestForce_J9_floorDiv_7cf53 : GoodIn wsX2_greatestForce (va_wsS RX2 88 yJ9_floorDiv_7cf53 wsJ9_floorDiv_7cf53) := goodIn_app (goodIn_of _ (by decide +kernel)) ggX2_greatestForce_J9_floorDiv_7cf53
theorem dX2_greatestForce_0 : decode cX2_greatestForce 0 = .ok (.aload_n 0, 1) := by decide +kernel
theorem dX2_greatestForce_1 : decode cX2_greatestForce 1 = .ok (.invokevirtual 63, 3) := by decide +kernel
theorem dX2_greatestForce_4 : decode cX2_greatestForce 4 = .ok (.istore_n 1, 1) := by decide +kernel
theorem dX2_greatestForce_5 : decode cX2_greatestForce 5 = .ok (.sipush 1000, 3) := by decide +kernel
theorem dX2_greatestForce_8 : decode cX2_greatestForce 8 = .ok (.aload_n 0, 1) := by decide +kernel
theorem dX2_greatestForce_9 : decode cX2_greatestForce 9 = .ok (.getfield 15, 3) := by decide +kernel
theorem dX2_greatestForce_12 : decode cX2_greatestForce 12 = .ok (.imul, 1) := by decide +kernel
theorem dX2_greatestForce_13 : decode cX2_greatestForce 13 = .ok (.bipush 10, 2) := by decide +kernel
theorem dX2_greatestForce_15 : decode cX2_greatestForce 15 = .ok (.aload_n 0, 1) := by decide +kernel
theorem dX2_greatestForce_16 : decode cX2_greatestForce 16 = .ok (.getfield 9, 3) := by decide +kernel
theorem dX2_greatestForce_19 : decode cX2_greatestForce 19 = .ok (.imul, 1) := by decide +kernel
theorem dX2_greatestForce_20 : decode cX2_greatestForce 20 = .ok (.iload_n 1, 1) := by decide +kernel
theorem dX2_greatestForce_21 : decode cX2_greatestForce 21 = .ok (.imul, 1) := by decide +kernel
theorem dX2_greatestForce_22 : decode cX2_greatestForce 22 = .ok (.iadd, 1) := by decide +kernel
theorem dX2_greatestForce_23 : decode cX2_greatestForce 23 = .ok (.istore_n 2, 1) := by decide +kernel
theorem dX2_greatestForce_24 : decode cX2_greatestForce 24 = .ok (.iload_n 2, 1) := by decide +kernel
theorem dX2_greatestForce_25 : decode cX2_greatestForce 25 = .ok (.ifCond .le 16, 3) := by decide +kernel
theorem dX2_greatestForce_28 : decode cX2_greatestForce 28 = .ok (.iload_n 1, 1) := by decide +kernel
theorem dX2_greatestForce_29 : decode cX2_greatestForce 29 = .ok (.aload_n 0, 1) := by decide +kernel
theorem dX2_greatestForce_30 : decode cX2_greatestForce 30 = .ok (.invokevirtual 47, 3) := by decide +kernel
theorem dX2_greatestForce_33 : decode cX2_greatestForce 33 = .ok (.imul, 1) := by decide +kernel
theorem dX2_greatestForce_34 : decode cX2_greatestForce 34 = .ok (.iload_n 2, 1) := by decide +kernel
theorem dX2_greatestForce_35 : decode cX2_greatestForce 35 = .ok (.invokestatic 88, 3) := by decide +kernel
theorem dX2_greatestForce_38 : decode cX2_greatestForce 38 = .ok (.goto 4, 3) := by decide +kernel
theorem dX2_greatestForce_41 : decode cX2_greatestForce 41 = .ok (.iconst 0, 1) := by decide +kernel
theorem dX2_greatestForce_42 : decode cX2_greatestForce 42 = .ok (.ireturn, 1) := by decide +kernel
set_option maxRecDepth 20000 in
theorem ggX2_leastByWall_X2_wallPercents : GoodIn wsX2_leastByWall wsX2_wallPercents := goodIn_r _ [8, 1, 20, 21, 22, 23, 24, 25, 26, 27, 28, 29] (by decide +kernel) (by decide +kernel)
set_option maxRecDepth 20000 in
theorem gX2_leastByWall_X2_wallPercents : GoodIn wsX2_leastByWall (wsV RX2 63 RX2 yX2_wallPercents wsX2_wallPercents) := goodIn_app (goodIn_of _ (by decide +kernel)) ggX2_leastByWall_X2_wallPercents
set_option maxRecDepth 20000 in
theorem ggX2_leastByWall_X2_moment : GoodIn wsX2_leastByWall wsX2_moment := goodIn_r _ [12, 13, 14, 15, 3, 20, 21, 22, 23, 24, 25, 26, 27, 28, 29] (by decide +kernel) (by decide +kernel)
set_option maxRecDepth 20000 in
theorem gX2_leastByWall_X2_moment : GoodIn wsX2_leastByWall (wsV RX2 47 RX2 yX2_moment wsX2_moment) := goodIn_app (goodIn_of _ (by decide +kernel)) ggX2_leastByWall_X2_moment
set_option maxRecDepth 20000 in
theorem ggX2_leastByWall_J9_floorDiv_7cf53 : GoodIn wsX2_leastByWall wsJ9_floorDiv_7cf53 := goodIn_r _ [19] (by decide +kernel) (by decide +kernel)
set_option maxRecDepth 20000 in
theorem gX2_leastByWall_J9_floorDiv_7cf53 : GoodIn wsX2_leastByWall (va_wsS RX2 88 yJ9_floorDiv_7cf53 wsJ9_floorDiv_7cf53) := goodIn_app (goodIn_of _ (by decide +kernel)) ggX2_leastByWall_J9_floorDiv_7cf53
theorem dX2_leastByWall_0 : decode cX2_leastByWall 0 = .ok (.aload_n 0, 1) := by decide +kernel
theorem dX2_leastByWall_1 : decode cX2_leastByWall 1 = .ok (.getfield 24, 3) := by decide +kernel
theorem dX2_leastByWall_4 : decode cX2_leastByWall 4 = .ok (.iconst 3, 1) := by decide +kernel
theorem dX2_leastByWall_5 : decode cX2_leastByWall 5 = .ok (.if_icmp .ne 5, 3) := by decide +kernel
theorem dX2_leastByWall_8 : decode cX2_leastByWall 8 = .ok (.iconst 0, 1) := by decide +kernel
theorem dX2_leastByWall_9 : decode cX2_leastByWall 9 = .ok (.ireturn, 1) := by decide +kernel
theorem dX2_leastByWall_10 : decode cX2_leastByWall 10 = .ok (.aload_n 0, 1) := by decide +kernel
theorem dX2_leastByWall_11 : decode cX2_leastByWall 11 = .ok (.invokevirtual 63, 3) := by decide +kernel
theorem dX2_leastByWall_14 : decode cX2_leastByWall 14 = .ok (.istore_n 1, 1) := by decide +kernel
theorem dX2_leastByWall_15 : decode cX2_leastByWall 15 = .ok (.sipush 1000, 3) := by decide +kernel
theorem dX2_leastByWall_18 : decode cX2_leastByWall 18 = .ok (.aload_n 0, 1) := by decide +kernel
theorem dX2_leastByWall_19 : decode cX2_leastByWall 19 = .ok (.getfield 15, 3) := by decide +kernel
theorem dX2_leastByWall_22 : decode cX2_leastByWall 22 = .ok (.imul, 1) := by decide +kernel
theorem dX2_leastByWall_23 : decode cX2_leastByWall 23 = .ok (.bipush 10, 2) := by decide +kernel
theorem dX2_leastByWall_25 : decode cX2_leastByWall 25 = .ok (.aload_n 0, 1) := by decide +kernel
theorem dX2_leastByWall_26 : decode cX2_leastByWall 26 = .ok (.getfield 9, 3) := by decide +kernel
theorem dX2_leastByWall_29 : decode cX2_leastByWall 29 = .ok (.imul, 1) := by decide +kernel
theorem dX2_leastByWall_30 : decode cX2_leastByWall 30 = .ok (.iload_n 1, 1) := by decide +kernel
theorem dX2_leastByWall_31 : decode cX2_leastByWall 31 = .ok (.imul, 1) := by decide +kernel
theorem dX2_leastByWall_32 : decode cX2_leastByWall 32 = .ok (.isub, 1) := by decide +kernel
theorem dX2_leastByWall_33 : decode cX2_leastByWall 33 = .ok (.istore_n 2, 1) := by decide +kernel
theorem dX2_leastByWall_34 : decode cX2_leastByWall 34 = .ok (.iload_n 2, 1) := by decide +kernel
theorem dX2_leastByWall_35 : decode cX2_leastByWall 35 = .ok (.ifCond .le 17, 3) := by decide +kernel
theorem dX2_leastByWall_38 : decode cX2_leastByWall 38 = .ok (.iload_n 1, 1) := by decide +kernel
theorem dX2_leastByWall_39 : decode cX2_leastByWall 39 = .ok (.aload_n 0, 1) := by decide +kernel
theorem dX2_leastByWall_40 : decode cX2_leastByWall 40 = .ok (.invokevirtual 47, 3) := by decide +kernel
theorem dX2_leastByWall_43 : decode cX2_leastByWall 43 = .ok (.imul, 1) := by decide +kernel
theorem dX2_leastByWall_44 : decode cX2_leastByWall 44 = .ok (.iload_n 2, 1) := by decide +kernel
theorem dX2_leastByWall_45 : decode cX2_leastByWall 45 = .ok (.invokestatic 88, 3) := by decide +kernel
theorem dX2_leastByWall_48 : decode cX2_leastByWall 48 = .ok (.ineg, 1) := by decide +kernel
theorem dX2_leastByWall_49 : decode cX2_leastByWall 49 = .ok (.goto 6, 3) := by decide +kernel
theorem dX2_leastByWall_52 : decode cX2_leastByWall 52 = .ok (.sipush (-1000), 3) := by decide +kernel
theorem dX2_leastByWall_55 : decode cX2_leastByWall 55 = .ok (.ireturn, 1) := by decide +kernel
set_option maxRecDepth 20000 in
theorem ggX2_leastByGround_X2_groundPercents : GoodIn wsX2_leastByGround wsX2_groundPercents := goodIn_r _ [8, 9, 25, 26, 27, 28, 29, 30, 31, 32, 33, 34] (by decide +kernel) (by decide +kernel)
set_option maxRecDepth 20000 in
theorem gX2_leastByGround_X2_groundPercents : GoodIn wsX2_leastByGround (wsV RX2 66 RX2 yX2_groundPercents wsX2_groundPercents) := goodIn_app (goodIn_of _ (by decide +kernel)) ggX2_leastByGround_X2_groundPercents
set_option maxRecDepth 20000 in
theorem ggX2_leastByGround_X2_load : GoodIn wsX2_leastByGround wsX2_load := goodIn_r _ [13, 14, 15, 25, 26, 27, 28, 29, 30, 31, 32, 33, 34] (by decide +kernel) (by decide +kernel)
set_option maxRecDepth 20000 in
theorem gX2_leastByGround_X2_load : GoodIn wsX2_leastByGround (wsV RX2 55 RX2 yX2_load wsX2_load) := goodIn_app (goodIn_of _ (by decide +kernel)) ggX2_leastByGround_X2_load
set_option maxRecDepth 20000 in
theorem ggX2_leastByGround_X2_moment : GoodIn wsX2_leastByGround wsX2_moment := goodIn_r _ [19, 14, 20, 15, 2, 25, 26, 27, 28, 29, 30, 31, 32, 33, 34] (by decide +kernel) (by decide +kernel)
set_option maxRecDepth 20000 in
theorem gX2_leastByGround_X2_moment : GoodIn wsX2_leastByGround (wsV RX2 47 RX2 yX2_moment wsX2_moment) := goodIn_app (goodIn_of _ (by decide +kernel)) ggX2_leastByGround_X2_moment
set_option maxRecDepth 20000 in
theorem ggX2_leastByGround_J9_floorDiv_7cf53 : GoodIn wsX2_leastByGround wsJ9_floorDiv_7cf53 := goodIn_r _ [24] (by decide +kernel) (by decide +kernel)
set_option maxRecDepth 20000 in
theorem gX2_leastByGround_J9_floorDiv_7cf53 : GoodIn wsX2_leastByGround (va_wsS RX2 88 yJ9_floorDiv_7cf53 wsJ9_floorDiv_7cf53) := goodIn_app (goodIn_of _ (by decide +kernel)) ggX2_leastByGround_J9_floorDiv_7cf53
theorem dX2_leastByGround_0 : decode cX2_leastByGround 0 = .ok (.bipush 10, 2) := by decide +kernel
theorem dX2_leastByGround_2 : decode cX2_leastByGround 2 = .ok (.aload_n 0, 1) := by decide +kernel
theorem dX2_leastByGround_3 : decode cX2_leastByGround 3 = .ok (.getfield 15, 3) := by decide +kernel
theorem dX2_leastByGround_6 : decode cX2_leastByGround 6 = .ok (.imul, 1) := by decide +kernel
theorem dX2_leastByGround_7 : decode cX2_leastByGround 7 = .ok (.aload_n 0, 1) := by decide +kernel
theorem dX2_leastByGround_8 : decode cX2_leastByGround 8 = .ok (.invokevirtual 66, 3) := by decide +kernel
theorem dX2_leastByGround_11 : decode cX2_leastByGround 11 = .ok (.imul, 1) := by decide +kernel
theorem dX2_leastByGround_12 : decode cX2_leastByGround 12 = .ok (.sipush 1000, 3) := by decide +kernel
theorem dX2_leastByGround_15 : decode cX2_leastByGround 15 = .ok (.aload_n 0, 1) := by decide +kernel
theorem dX2_leastByGround_16 : decode cX2_leastByGround 16 = .ok (.getfield 9, 3) := by decide +kernel
theorem dX2_leastByGround_19 : decode cX2_leastByGround 19 = .ok (.imul, 1) := by decide +kernel
theorem dX2_leastByGround_20 : decode cX2_leastByGround 20 = .ok (.isub, 1) := by decide +kernel
theorem dX2_leastByGround_21 : decode cX2_leastByGround 21 = .ok (.istore_n 1, 1) := by decide +kernel
theorem dX2_leastByGround_22 : decode cX2_leastByGround 22 = .ok (.bipush 10, 2) := by decide +kernel
theorem dX2_leastByGround_24 : decode cX2_leastByGround 24 = .ok (.aload_n 0, 1) := by decide +kernel
theorem dX2_leastByGround_25 : decode cX2_leastByGround 25 = .ok (.getfield 15, 3) := by decide +kernel
theorem dX2_leastByGround_28 : decode cX2_leastByGround 28 = .ok (.imul, 1) := by decide +kernel
theorem dX2_leastByGround_29 : decode cX2_leastByGround 29 = .ok (.aload_n 0, 1) := by decide +kernel
theorem dX2_leastByGround_30 : decode cX2_leastByGround 30 = .ok (.invokevirtual 66, 3) := by decide +kernel
theorem dX2_leastByGround_33 : decode cX2_leastByGround 33 = .ok (.aload_n 0, 1) := by decide +kernel
theorem dX2_leastByGround_34 : decode cX2_leastByGround 34 = .ok (.invokevirtual 55, 3) := by decide +kernel
theorem dX2_leastByGround_37 : decode cX2_leastByGround 37 = .ok (.imul, 1) := by decide +kernel
theorem dX2_leastByGround_38 : decode cX2_leastByGround 38 = .ok (.bipush 100, 2) := by decide +kernel
theorem dX2_leastByGround_40 : decode cX2_leastByGround 40 = .ok (.aload_n 0, 1) := by decide +kernel
theorem dX2_leastByGround_41 : decode cX2_leastByGround 41 = .ok (.getfield 27, 3) := by decide +kernel
theorem dX2_leastByGround_44 : decode cX2_leastByGround 44 = .ok (.imul, 1) := by decide +kernel
theorem dX2_leastByGround_45 : decode cX2_leastByGround 45 = .ok (.iadd, 1) := by decide +kernel
theorem dX2_leastByGround_46 : decode cX2_leastByGround 46 = .ok (.imul, 1) := by decide +kernel
theorem dX2_leastByGround_47 : decode cX2_leastByGround 47 = .ok (.bipush 100, 2) := by decide +kernel
theorem dX2_leastByGround_49 : decode cX2_leastByGround 49 = .ok (.aload_n 0, 1) := by decide +kernel
theorem dX2_leastByGround_50 : decode cX2_leastByGround 50 = .ok (.invokevirtual 47, 3) := by decide +kernel
theorem dX2_leastByGround_53 : decode cX2_leastByGround 53 = .ok (.imul, 1) := by decide +kernel
theorem dX2_leastByGround_54 : decode cX2_leastByGround 54 = .ok (.isub, 1) := by decide +kernel
theorem dX2_leastByGround_55 : decode cX2_leastByGround 55 = .ok (.istore_n 2, 1) := by decide +kernel
theorem dX2_leastByGround_56 : decode cX2_leastByGround 56 = .ok (.iload_n 1, 1) := by decide +kernel
theorem dX2_leastByGround_57 : decode cX2_leastByGround 57 = .ok (.ifCond .ge 13, 3) := by decide +kernel
theorem dX2_leastByGround_60 : decode cX2_leastByGround 60 = .ok (.iload_n 2, 1) := by decide +kernel
theorem dX2_leastByGround_61 : decode cX2_leastByGround 61 = .ok (.iload_n 1, 1) := by decide +kernel
theorem dX2_leastByGround_62 : decode cX2_leastByGround 62 = .ok (.ineg, 1) := by decide +kernel
theorem dX2_leastByGround_63 : decode cX2_leastByGround 63 = .ok (.invokestatic 88, 3) := by decide +kernel
theorem dX2_leastByGround_66 : decode cX2_leastByGround 66 = .ok (.ineg, 1) := by decide +kernel
theorem dX2_leastByGround_67 : decode cX2_leastByGround 67 = .ok (.goto 6, 3) := by decide +kernel
theorem dX2_leastByGround_70 : decode cX2_leastByGround 70 = .ok (.sipush (-1000), 3) := by decide +kernel
theorem dX2_leastByGround_73 : decode cX2_leastByGround 73 = .ok (.ireturn, 1) := by decide +kernel
theorem dX2_groundPercents_0 : decode cX2_groundPercents 0 = .ok (.aload_n 0, 1) := by decide +kernel
theorem dX2_groundPercents_1 : decode cX2_groundPercents 1 = .ok (.getfield 21, 3) := by decide +kernel
theorem dX2_groundPercents_4 : decode cX2_groundPercents 4 = .ok (.ifCond .lt 25, 3) := by decide +kernel
theorem dX2_groundPercents_7 : decode cX2_groundPercents 7 = .ok (.aload_n 0, 1) := by decide +kernel
theorem dX2_groundPercents_8 : decode cX2_groundPercents 8 = .ok (.getfield 21, 3) := by decide +kernel
theorem dX2_groundPercents_11 : decode cX2_groundPercents 11 = .ok (.getstatic 91, 3) := by decide +kernel
theorem dX2_groundPercents_14 : decode cX2_groundPercents 14 = .ok (.arraylength, 1) := by decide +kernel
theorem dX2_groundPercents_15 : decode cX2_groundPercents 15 = .ok (.if_icmp .ge 14, 3) := by decide +kernel
theorem dX2_groundPercents_18 : decode cX2_groundPercents 18 = .ok (.getstatic 91, 3) := by decide +kernel
theorem dX2_groundPercents_21 : decode cX2_groundPercents 21 = .ok (.aload_n 0, 1) := by decide +kernel
theorem dX2_groundPercents_22 : decode cX2_groundPercents 22 = .ok (.getfield 21, 3) := by decide +kernel
theorem dX2_groundPercents_25 : decode cX2_groundPercents 25 = .ok (.iaload, 1) := by decide +kernel
theorem dX2_groundPercents_26 : decode cX2_groundPercents 26 = .ok (.goto 4, 3) := by decide +kernel
theorem dX2_groundPercents_29 : decode cX2_groundPercents 29 = .ok (.iconst 0, 1) := by decide +kernel
theorem dX2_groundPercents_30 : decode cX2_groundPercents 30 = .ok (.ireturn, 1) := by decide +kernel
theorem dX2_wallPercents_0 : decode cX2_wallPercents 0 = .ok (.aload_n 0, 1) := by decide +kernel
theorem dX2_wallPercents_1 : decode cX2_wallPercents 1 = .ok (.getfield 24, 3) := by decide +kernel
theorem dX2_wallPercents_4 : decode cX2_wallPercents 4 = .ok (.ifCond .lt 25, 3) := by decide +kernel
theorem dX2_wallPercents_7 : decode cX2_wallPercents 7 = .ok (.aload_n 0, 1) := by decide +kernel
theorem dX2_wallPercents_8 : decode cX2_wallPercents 8 = .ok (.getfield 24, 3) := by decide +kernel
theorem dX2_wallPercents_11 : decode cX2_wallPercents 11 = .ok (.getstatic 94, 3) := by decide +kernel
theorem dX2_wallPercents_14 : decode cX2_wallPercents 14 = .ok (.arraylength, 1) := by decide +kernel
theorem dX2_wallPercents_15 : decode cX2_wallPercents 15 = .ok (.if_icmp .ge 14, 3) := by decide +kernel
theorem dX2_wallPercents_18 : decode cX2_wallPercents 18 = .ok (.getstatic 94, 3) := by decide +kernel
theorem dX2_wallPercents_21 : decode cX2_wallPercents 21 = .ok (.aload_n 0, 1) := by decide +kernel
theorem dX2_wallPercents_22 : decode cX2_wallPercents 22 = .ok (.getfield 24, 3) := by decide +kernel
theorem dX2_wallPercents_25 : decode cX2_wallPercents 25 = .ok (.iaload, 1) := by decide +kernel
theorem dX2_wallPercents_26 : decode cX2_wallPercents 26 = .ok (.goto 4, 3) := by decide +kernel
theorem dX2_wallPercents_29 : decode cX2_wallPercents 29 = .ok (.iconst 0, 1) := by decide +kernel
theorem dX2_wallPercents_30 : decode cX2_wallPercents 30 = .ok (.ireturn, 1) := by decide +kernel
set_option maxRecDepth 20000 in
theorem ggX3_init_X2_init : GoodIn wsX3_init wsX2_init := goodIn_r _ [11, 12, 2, 3, 13, 14, 15, 16, 17, 18, 19, 20, 21, 22, 23, 27, 28, 29, 30, 31, 32, 33, 34, 35, 36] (by decide +kernel) (by decide +kernel)
set_option maxRecDepth 20000 in
theorem gX3_init_X2_init_n24 : GoodIn wsX3_init (wsX2_init) := ggX3_init_X2_init
theorem dX3_init_0 : decode cX3_init 0 = .ok (.aload_n 0, 1) := by decide +kernel
theorem dX3_init_1 : decode cX3_init 1 = .ok (.invokespecial 3, 3) := by decide +kernel
theorem dX3_init_4 : decode cX3_init 4 = .ok (.aload_n 0, 1) := by decide +kernel
theorem dX3_init_5 : decode cX3_init 5 = .ok (.iconst 4, 1) := by decide +kernel
theorem dX3_init_6 : decode cX3_init 6 = .ok (.anewarray 9, 3) := by decide +kernel
theorem dX3_init_9 : decode cX3_init 9 = .ok (.putfield 11, 3) := by decide +kernel
theorem dX3_init_12 : decode cX3_init 12 = .ok (.aload_n 0, 1) := by decide +kernel
theorem dX3_init_13 : decode cX3_init 13 = .ok (.iconst 0, 1) := by decide +kernel
theorem dX3_init_14 : decode cX3_init 14 = .ok (.putfield 17, 3) := by decide +kernel
theorem dX3_init_17 : decode cX3_init 17 = .ok (.aload_n 0, 1) := by decide +kernel
theorem dX3_init_18 : decode cX3_init 18 = .ok (.iconst 0, 1) := by decide +kernel
theorem dX3_init_19 : decode cX3_init 19 = .ok (.putfield 21, 3) := by decide +kernel
theorem dX3_init_22 : decode cX3_init 22 = .ok (.iconst 0, 1) := by decide +kernel
theorem dX3_init_23 : decode cX3_init 23 = .ok (.istore_n 1, 1) := by decide +kernel
theorem dX3_init_24 : decode cX3_init 24 = .ok (.iload_n 1, 1) := by decide +kernel
theorem dX3_init_25 : decode cX3_init 25 = .ok (.iconst 4, 1) := by decide +kernel
theorem dX3_init_26 : decode cX3_init 26 = .ok (.if_icmp .ge 22, 3) := by decide +kernel
theorem dX3_init_29 : decode cX3_init 29 = .ok (.aload_n 0, 1) := by decide +kernel
theorem dX3_init_30 : decode cX3_init 30 = .ok (.getfield 11, 3) := by decide +kernel
theorem dX3_init_33 : decode cX3_init 33 = .ok (.iload_n 1, 1) := by decide +kernel
theorem dX3_init_34 : decode cX3_init 34 = .ok (.new 9, 3) := by decide +kernel
theorem dX3_init_37 : decode cX3_init 37 = .ok (.dup, 1) := by decide +kernel
theorem dX3_init_38 : decode cX3_init 38 = .ok (.invokespecial 24, 3) := by decide +kernel
theorem dX3_init_41 : decode cX3_init 41 = .ok (.aastore, 1) := by decide +kernel
theorem dX3_init_42 : decode cX3_init 42 = .ok (.iinc 1 1, 3) := by decide +kernel
theorem dX3_init_45 : decode cX3_init 45 = .ok (.goto (-21), 3) := by decide +kernel
theorem dX3_init_48 : decode cX3_init 48 = .ok (.return_, 1) := by decide +kernel
set_option maxRecDepth 20000 in
theorem ggX3_copyFrom_X2_copyFrom : GoodIn wsX3_copyFrom wsX2_copyFrom := goodIn_r _ [8, 9, 10, 11, 12, 13, 14, 15, 16, 17, 18, 22, 23, 24, 25, 26, 27, 28, 29, 30, 31] (by decide +kernel) (by decide +kernel)
set_option maxRecDepth 20000 in
theorem gX3_copyFrom_X2_copyFrom : GoodIn wsX3_copyFrom (wsV RX3 25 RX2 yX2_copyFrom wsX2_copyFrom) := goodIn_app (goodIn_of _ (by decide +kernel)) ggX3_copyFrom_X2_copyFrom
theorem dX3_copyFrom_0 : decode cX3_copyFrom 0 = .ok (.iconst 0, 1) := by decide +kernel
theorem dX3_copyFrom_1 : decode cX3_copyFrom 1 = .ok (.istore_n 2, 1) := by decide +kernel
theorem dX3_copyFrom_2 : decode cX3_copyFrom 2 = .ok (.iload_n 2, 1) := by decide +kernel
theorem dX3_copyFrom_3 : decode cX3_copyFrom 3 = .ok (.iconst 4, 1) := by decide +kernel
theorem dX3_copyFrom_4 : decode cX3_copyFrom 4 = .ok (.if_icmp .ge 24, 3) := by decide +kernel
theorem dX3_copyFrom_7 : decode cX3_copyFrom 7 = .ok (.aload_n 0, 1) := by decide +kernel
theorem dX3_copyFrom_8 : decode cX3_copyFrom 8 = .ok (.getfield 11, 3) := by decide +kernel
theorem dX3_copyFrom_11 : decode cX3_copyFrom 11 = .ok (.iload_n 2, 1) := by decide +kernel
theorem dX3_copyFrom_12 : decode cX3_copyFrom 12 = .ok (.aaload, 1) := by decide +kernel
theorem dX3_copyFrom_13 : decode cX3_copyFrom 13 = .ok (.aload_n 1, 1) := by decide +kernel
theorem dX3_copyFrom_14 : decode cX3_copyFrom 14 = .ok (.getfield 11, 3) := by decide +kernel
theorem dX3_copyFrom_17 : decode cX3_copyFrom 17 = .ok (.iload_n 2, 1) := by decide +kernel
theorem dX3_copyFrom_18 : decode cX3_copyFrom 18 = .ok (.aaload, 1) := by decide +kernel
theorem dX3_copyFrom_19 : decode cX3_copyFrom 19 = .ok (.invokevirtual 25, 3) := by decide +kernel
theorem dX3_copyFrom_22 : decode cX3_copyFrom 22 = .ok (.iinc 2 1, 3) := by decide +kernel
theorem dX3_copyFrom_25 : decode cX3_copyFrom 25 = .ok (.goto (-23), 3) := by decide +kernel
theorem dX3_copyFrom_28 : decode cX3_copyFrom 28 = .ok (.aload_n 0, 1) := by decide +kernel
theorem dX3_copyFrom_29 : decode cX3_copyFrom 29 = .ok (.aload_n 1, 1) := by decide +kernel
theorem dX3_copyFrom_30 : decode cX3_copyFrom 30 = .ok (.getfield 17, 3) := by decide +kernel
theorem dX3_copyFrom_33 : decode cX3_copyFrom 33 = .ok (.putfield 17, 3) := by decide +kernel
theorem dX3_copyFrom_36 : decode cX3_copyFrom 36 = .ok (.aload_n 0, 1) := by decide +kernel
theorem dX3_copyFrom_37 : decode cX3_copyFrom 37 = .ok (.aload_n 1, 1) := by decide +kernel
theorem dX3_copyFrom_38 : decode cX3_copyFrom 38 = .ok (.getfield 21, 3) := by decide +kernel
theorem dX3_copyFrom_41 : decode cX3_copyFrom 41 = .ok (.putfield 21, 3) := by decide +kernel
theorem dX3_copyFrom_44 : decode cX3_copyFrom 44 = .ok (.return_, 1) := by decide +kernel
set_option maxRecDepth 20000 in
theorem ggX3_standing_X2_stands : GoodIn wsX3_standing wsX2_stands := goodIn_r _ [6, 7, 8, 9, 5, 10, 11, 12, 13, 14, 15, 16, 17, 18, 19, 20, 21, 22, 23, 24, 25, 26, 27, 28, 29, 30, 31, 32, 33, 34, 35, 36, 37, 38, 39, 40, 41, 42, 43, 44, 45, 46, 47, 48, 49, 50, 51, 52, 53, 54, 58, 59, 60, 61, 62, 63, 64, 65, 66, 67] (by decide +kernel) (by decide +kernel)
set_option maxRecDepth 20000 in
theorem gX3_standing_X2_stands : GoodIn wsX3_standing (wsV RX3 29 RX2 yX2_stands wsX2_stands) := goodIn_app (goodIn_of _ (by decide +kernel)) ggX3_standing_X2_stands
theorem dX3_standing_0 : decode cX3_standing 0 = .ok (.iconst 0, 1) := by decide +kernel
theorem dX3_standing_1 : decode cX3_standing 1 = .ok (.istore_n 1, 1) := by decide +kernel
theorem dX3_standing_2 : decode cX3_standing 2 = .ok (.iconst 0, 1) := by decide +kernel
theorem dX3_standing_3 : decode cX3_standing 3 = .ok (.istore_n 2, 1) := by decide +kernel
theorem dX3_standing_4 : decode cX3_standing 4 = .ok (.iload_n 2, 1) := by decide +kernel
theorem dX3_standing_5 : decode cX3_standing 5 = .ok (.iconst 4, 1) := by decide +kernel
theorem dX3_standing_6 : decode cX3_standing 6 = .ok (.if_icmp .ge 24, 3) := by decide +kernel
theorem dX3_standing_9 : decode cX3_standing 9 = .ok (.aload_n 0, 1) := by decide +kernel
theorem dX3_standing_10 : decode cX3_standing 10 = .ok (.getfield 11, 3) := by decide +kernel
theorem dX3_standing_13 : decode cX3_standing 13 = .ok (.iload_n 2, 1) := by decide +kernel
theorem dX3_standing_14 : decode cX3_standing 14 = .ok (.aaload, 1) := by decide +kernel
theorem dX3_standing_15 : decode cX3_standing 15 = .ok (.invokevirtual 29, 3) := by decide +kernel
theorem dX3_standing_18 : decode cX3_standing 18 = .ok (.ifCond .eq 6, 3) := by decide +kernel
theorem dX3_standing_21 : decode cX3_standing 21 = .ok (.iinc 1 1, 3) := by decide +kernel
theorem dX3_standing_24 : decode cX3_standing 24 = .ok (.iinc 2 1, 3) := by decide +kernel
theorem dX3_standing_27 : decode cX3_standing 27 = .ok (.goto (-23), 3) := by decide +kernel
theorem dX3_standing_30 : decode cX3_standing 30 = .ok (.iload_n 1, 1) := by decide +kernel
theorem dX3_standing_31 : decode cX3_standing 31 = .ok (.ireturn, 1) := by decide +kernel
theorem dX3_people_0 : decode cX3_people 0 = .ok (.iconst 0, 1) := by decide +kernel
theorem dX3_people_1 : decode cX3_people 1 = .ok (.istore_n 1, 1) := by decide +kernel
theorem dX3_people_2 : decode cX3_people 2 = .ok (.iconst 0, 1) := by decide +kernel
theorem dX3_people_3 : decode cX3_people 3 = .ok (.istore_n 2, 1) := by decide +kernel
theorem dX3_people_4 : decode cX3_people 4 = .ok (.iload_n 2, 1) := by decide +kernel
theorem dX3_people_5 : decode cX3_people 5 = .ok (.iconst 4, 1) := by decide +kernel
theorem dX3_people_6 : decode cX3_people 6 = .ok (.if_icmp .ge 21, 3) := by decide +kernel
theorem dX3_people_9 : decode cX3_people 9 = .ok (.iload_n 1, 1) := by decide +kernel
theorem dX3_people_10 : decode cX3_people 10 = .ok (.aload_n 0, 1) := by decide +kernel
theorem dX3_people_11 : decode cX3_people 11 = .ok (.getfield 11, 3) := by decide +kernel
theorem dX3_people_14 : decode cX3_people 14 = .ok (.iload_n 2, 1) := by decide +kernel
theorem dX3_people_15 : decode cX3_people 15 = .ok (.aaload, 1) := by decide +kernel
theorem dX3_people_16 : decode cX3_people 16 = .ok (.getfield 33, 3) := by decide +kernel
theorem dX3_people_19 : decode cX3_people 19 = .ok (.iadd, 1) := by decide +kernel
theorem dX3_people_20 : decode cX3_people 20 = .ok (.istore_n 1, 1) := by decide +kernel
theorem dX3_people_21 : decode cX3_people 21 = .ok (.iinc 2 1, 3) := by decide +kernel
theorem dX3_people_24 : decode cX3_people 24 = .ok (.goto (-20), 3) := by decide +kernel
theorem dX3_people_27 : decode cX3_people 27 = .ok (.iload_n 1, 1) := by decide +kernel
theorem dX3_people_28 : decode cX3_people 28 = .ok (.ireturn, 1) := by decide +kernel
theorem dX3_falls_0 : decode cX3_falls 0 = .ok (.iconst 0, 1) := by decide +kernel
theorem dX3_falls_1 : decode cX3_falls 1 = .ok (.istore_n 1, 1) := by decide +kernel
theorem dX3_falls_2 : decode cX3_falls 2 = .ok (.iconst 0, 1) := by decide +kernel
theorem dX3_falls_3 : decode cX3_falls 3 = .ok (.istore_n 2, 1) := by decide +kernel
theorem dX3_falls_4 : decode cX3_falls 4 = .ok (.iload_n 2, 1) := by decide +kernel
theorem dX3_falls_5 : decode cX3_falls 5 = .ok (.iconst 4, 1) := by decide +kernel
theorem dX3_falls_6 : decode cX3_falls 6 = .ok (.if_icmp .ge 21, 3) := by decide +kernel
theorem dX3_falls_9 : decode cX3_falls 9 = .ok (.iload_n 1, 1) := by decide +kernel
theorem dX3_falls_10 : decode cX3_falls 10 = .ok (.aload_n 0, 1) := by decide +kernel
theorem dX3_falls_11 : decode cX3_falls 11 = .ok (.getfield 11, 3) := by decide +kernel
theorem dX3_falls_14 : decode cX3_falls 14 = .ok (.iload_n 2, 1) := by decide +kernel
theorem dX3_falls_15 : decode cX3_falls 15 = .ok (.aaload, 1) := by decide +kernel
theorem dX3_falls_16 : decode cX3_falls 16 = .ok (.getfield 36, 3) := by decide +kernel
theorem dX3_falls_19 : decode cX3_falls 19 = .ok (.iadd, 1) := by decide +kernel
theorem dX3_falls_20 : decode cX3_falls 20 = .ok (.istore_n 1, 1) := by decide +kernel
theorem dX3_falls_21 : decode cX3_falls 21 = .ok (.iinc 2 1, 3) := by decide +kernel
theorem dX3_falls_24 : decode cX3_falls 24 = .ok (.goto (-20), 3) := by decide +kernel
theorem dX3_falls_27 : decode cX3_falls 27 = .ok (.iload_n 1, 1) := by decide +kernel
theorem dX3_falls_28 : decode cX3_falls 28 = .ok (.ireturn, 1) := by decide +kernel
set_option maxRecDepth 20000 in
theorem ggX3_fallsNow_X2_stands : GoodIn wsX3_fallsNow wsX2_stands := goodIn_r _ [6, 7, 8, 9, 5, 10, 11, 12, 13, 14, 15, 16, 17, 18, 19, 20, 21, 22, 23, 24, 25, 26, 27, 28, 29, 30, 31, 32, 33, 34, 35, 36, 37, 38, 39, 40, 41, 42, 43, 44, 45, 46, 47, 48, 49, 50, 51, 52, 53, 54, 67, 68, 69, 70, 71, 72, 73, 74, 75, 76] (by decide +kernel) (by decide +kernel)
set_option maxRecDepth 20000 in
theorem gX3_fallsNow_X2_stands : GoodIn wsX3_fallsNow (wsV RX3 29 RX2 yX2_stands wsX2_stands) := goodIn_app (goodIn_of _ (by decide +kernel)) ggX3_fallsNow_X2_stands
set_option maxRecDepth 20000 in
theorem ggX3_fallsNow_X3_fall : GoodIn wsX3_fallsNow wsX3_fall := goodIn_r _ [59, 60, 1, 61, 62, 63, 64, 5, 65, 32, 31, 66, 77, 78, 79, 67, 68, 69, 70, 71, 72, 73, 74, 75, 76] (by decide +kernel) (by decide +kernel)
set_option maxRecDepth 20000 in
theorem gX3_fallsNow_X3_fall : GoodIn wsX3_fallsNow (wsV RX3 39 RX3 yX3_fall wsX3_fall) := goodIn_app (goodIn_of _ (by decide +kernel)) ggX3_fallsNow_X3_fall
theorem dX3_fallsNow_0 : decode cX3_fallsNow 0 = .ok (.aload_n 1, 1) := by decide +kernel
theorem dX3_fallsNow_1 : decode cX3_fallsNow 1 = .ok (.getfield 33, 3) := by decide +kernel
theorem dX3_fallsNow_4 : decode cX3_fallsNow 4 = .ok (.ifCond .eq 10, 3) := by decide +kernel
theorem dX3_fallsNow_7 : decode cX3_fallsNow 7 = .ok (.aload_n 1, 1) := by decide +kernel
theorem dX3_fallsNow_8 : decode cX3_fallsNow 8 = .ok (.invokevirtual 29, 3) := by decide +kernel
theorem dX3_fallsNow_11 : decode cX3_fallsNow 11 = .ok (.ifCond .eq 5, 3) := by decide +kernel
theorem dX3_fallsNow_14 : decode cX3_fallsNow 14 = .ok (.iconst 0, 1) := by decide +kernel
theorem dX3_fallsNow_15 : decode cX3_fallsNow 15 = .ok (.ireturn, 1) := by decide +kernel
theorem dX3_fallsNow_16 : decode cX3_fallsNow 16 = .ok (.aload_n 0, 1) := by decide +kernel
theorem dX3_fallsNow_17 : decode cX3_fallsNow 17 = .ok (.aload_n 1, 1) := by decide +kernel
theorem dX3_fallsNow_18 : decode cX3_fallsNow 18 = .ok (.invokevirtual 39, 3) := by decide +kernel
theorem dX3_fallsNow_21 : decode cX3_fallsNow 21 = .ok (.iconst 1, 1) := by decide +kernel
theorem dX3_fallsNow_22 : decode cX3_fallsNow 22 = .ok (.ireturn, 1) := by decide +kernel
set_option maxRecDepth 20000 in
theorem ggX3_fall_X2_removeAll : GoodIn wsX3_fall wsX2_removeAll := goodIn_r _ [8, 9, 10, 11, 15, 16, 17, 18, 19, 20, 21, 22, 23, 24] (by decide +kernel) (by decide +kernel)
set_option maxRecDepth 20000 in
theorem gX3_fall_X2_removeAll : GoodIn wsX3_fall (wsV RX3 42 RX2 yX2_removeAll wsX2_removeAll) := goodIn_app (goodIn_of _ (by decide +kernel)) ggX3_fall_X2_removeAll
theorem dX3_fall_0 : decode cX3_fall 0 = .ok (.aload_n 0, 1) := by decide +kernel
theorem dX3_fall_1 : decode cX3_fall 1 = .ok (.dup, 1) := by decide +kernel
theorem dX3_fall_2 : decode cX3_fall 2 = .ok (.getfield 17, 3) := by decide +kernel
theorem dX3_fall_5 : decode cX3_fall 5 = .ok (.aload_n 1, 1) := by decide +kernel
theorem dX3_fall_6 : decode cX3_fall 6 = .ok (.getfield 33, 3) := by decide +kernel
theorem dX3_fall_9 : decode cX3_fall 9 = .ok (.iadd, 1) := by decide +kernel
theorem dX3_fall_10 : decode cX3_fall 10 = .ok (.putfield 17, 3) := by decide +kernel
theorem dX3_fall_13 : decode cX3_fall 13 = .ok (.aload_n 1, 1) := by decide +kernel
theorem dX3_fall_14 : decode cX3_fall 14 = .ok (.dup, 1) := by decide +kernel
theorem dX3_fall_15 : decode cX3_fall 15 = .ok (.getfield 36, 3) := by decide +kernel
theorem dX3_fall_18 : decode cX3_fall 18 = .ok (.iconst 1, 1) := by decide +kernel
theorem dX3_fall_19 : decode cX3_fall 19 = .ok (.iadd, 1) := by decide +kernel
theorem dX3_fall_20 : decode cX3_fall 20 = .ok (.putfield 36, 3) := by decide +kernel
theorem dX3_fall_23 : decode cX3_fall 23 = .ok (.aload_n 1, 1) := by decide +kernel
theorem dX3_fall_24 : decode cX3_fall 24 = .ok (.invokevirtual 42, 3) := by decide +kernel
theorem dX3_fall_27 : decode cX3_fall 27 = .ok (.return_, 1) := by decide +kernel
set_option maxRecDepth 20000 in
theorem ggX3_walk_X2_stepOf : GoodIn wsX3_walk wsX2_stepOf := goodIn_r _ [10, 11, 12, 13, 14, 9, 15, 16, 86, 87, 88, 89, 90, 91, 92, 93, 94, 95] (by decide +kernel) (by decide +kernel)
set_option maxRecDepth 20000 in
theorem gX3_walk_X2_stepOf : GoodIn wsX3_walk (wsV RX3 45 RX2 yX2_stepOf wsX2_stepOf) := goodIn_app (goodIn_of _ (by decide +kernel)) ggX3_walk_X2_stepOf
set_option maxRecDepth 20000 in
theorem ggX3_walk_X2_setStep : GoodIn wsX3_walk wsX2_setStep := goodIn_r _ [20, 11, 12, 13, 14, 9, 15, 16, 86, 87, 88, 89, 90, 91, 92, 93, 94, 95] (by decide +kernel) (by decide +kernel)
set_option maxRecDepth 20000 in
theorem gX3_walk_X2_setStep : GoodIn wsX3_walk (wsV RX3 54 RX2 yX2_setStep wsX2_setStep) := goodIn_app (goodIn_of _ (by decide +kernel)) ggX3_walk_X2_setStep
set_option maxRecDepth 20000 in
theorem ggX3_walk_X2_stands : GoodIn wsX3_walk wsX2_stands := goodIn_r _ [24, 25, 26, 27, 9, 28, 29, 30, 3, 31, 32, 33, 34, 35, 36, 37, 38, 39, 40, 41, 42, 43, 44, 45, 46, 47, 11, 48, 49, 50, 51, 52, 53, 54, 55, 56, 57, 58, 59, 60, 61, 62, 63, 64, 65, 66, 67, 68, 69, 70, 86, 87, 88, 89, 90, 91, 92, 93, 94, 95] (by decide +kernel) (by decide +kernel)
set_option maxRecDepth 20000 in
theorem gX3_walk_X2_stands : GoodIn wsX3_walk (wsV RX3 29 RX2 yX2_stands wsX2_stands) := goodIn_app (goodIn_of _ (by decide +kernel)) ggX3_walk_X2_stands
set_option maxRecDepth 20000 in
theorem ggX3_walk_X3_fall : GoodIn wsX3_walk wsX3_fall := goodIn_r _ [75, 76, 77, 78, 79, 80, 81, 9, 82, 48, 11, 16, 83, 84, 85, 86, 87, 88, 89, 90, 91, 92, 93, 94, 95] (by decide +kernel) (by decide +kernel)
set_option maxRecDepth 20000 in
theorem gX3_walk_X3_fall : GoodIn wsX3_walk (wsV RX3 39 RX3 yX3_fall wsX3_fall) := goodIn_app (goodIn_of _ (by decide +kernel)) ggX3_walk_X3_fall
theorem dX3_walk_0 : decode cX3_walk 0 = .ok (.aload_n 1, 1) := by decide +kernel
theorem dX3_walk_1 : decode cX3_walk 1 = .ok (.iload_n 2, 1) := by decide +kernel
theorem dX3_walk_2 : decode cX3_walk 2 = .ok (.invokevirtual 45, 3) := by decide +kernel
theorem dX3_walk_5 : decode cX3_walk 5 = .ok (.istore 4, 2) := by decide +kernel
theorem dX3_walk_7 : decode cX3_walk 7 = .ok (.iload_n 3, 1) := by decide +kernel
theorem dX3_walk_8 : decode cX3_walk 8 = .ok (.iload 4, 2) := by decide +kernel
theorem dX3_walk_10 : decode cX3_walk 10 = .ok (.if_icmp .ge 7, 3) := by decide +kernel
theorem dX3_walk_13 : decode cX3_walk 13 = .ok (.iconst (-1), 1) := by decide +kernel
theorem dX3_walk_14 : decode cX3_walk 14 = .ok (.goto 4, 3) := by decide +kernel
theorem dX3_walk_17 : decode cX3_walk 17 = .ok (.iconst 1, 1) := by decide +kernel
theorem dX3_walk_18 : decode cX3_walk 18 = .ok (.istore 5, 2) := by decide +kernel
theorem dX3_walk_20 : decode cX3_walk 20 = .ok (.iload_n 3, 1) := by decide +kernel
theorem dX3_walk_21 : decode cX3_walk 21 = .ok (.iload 4, 2) := by decide +kernel
theorem dX3_walk_23 : decode cX3_walk 23 = .ok (.isub, 1) := by decide +kernel
theorem dX3_walk_24 : decode cX3_walk 24 = .ok (.invokestatic 49, 3) := by decide +kernel
theorem dX3_walk_27 : decode cX3_walk 27 = .ok (.istore 6, 2) := by decide +kernel
theorem dX3_walk_29 : decode cX3_walk 29 = .ok (.iconst 1, 1) := by decide +kernel
theorem dX3_walk_30 : decode cX3_walk 30 = .ok (.istore 7, 2) := by decide +kernel
theorem dX3_walk_32 : decode cX3_walk 32 = .ok (.iload 7, 2) := by decide +kernel
theorem dX3_walk_34 : decode cX3_walk 34 = .ok (.iload 6, 2) := by decide +kernel
theorem dX3_walk_36 : decode cX3_walk 36 = .ok (.if_icmp .gt 46, 3) := by decide +kernel
theorem dX3_walk_39 : decode cX3_walk 39 = .ok (.aload_n 1, 1) := by decide +kernel
theorem dX3_walk_40 : decode cX3_walk 40 = .ok (.iload_n 2, 1) := by decide +kernel
theorem dX3_walk_41 : decode cX3_walk 41 = .ok (.iload 4, 2) := by decide +kernel
theorem dX3_walk_43 : decode cX3_walk 43 = .ok (.iload 7, 2) := by decide +kernel
theorem dX3_walk_45 : decode cX3_walk 45 = .ok (.iload 5, 2) := by decide +kernel
theorem dX3_walk_47 : decode cX3_walk 47 = .ok (.imul, 1) := by decide +kernel
theorem dX3_walk_48 : decode cX3_walk 48 = .ok (.iadd, 1) := by decide +kernel
theorem dX3_walk_49 : decode cX3_walk 49 = .ok (.invokevirtual 54, 3) := by decide +kernel
theorem dX3_walk_52 : decode cX3_walk 52 = .ok (.aload_n 0, 1) := by decide +kernel
theorem dX3_walk_53 : decode cX3_walk 53 = .ok (.dup, 1) := by decide +kernel
theorem dX3_walk_54 : decode cX3_walk 54 = .ok (.getfield 21, 3) := by decide +kernel
theorem dX3_walk_57 : decode cX3_walk 57 = .ok (.iconst 1, 1) := by decide +kernel
theorem dX3_walk_58 : decode cX3_walk 58 = .ok (.iadd, 1) := by decide +kernel
theorem dX3_walk_59 : decode cX3_walk 59 = .ok (.putfield 21, 3) := by decide +kernel
theorem dX3_walk_62 : decode cX3_walk 62 = .ok (.aload_n 1, 1) := by decide +kernel
theorem dX3_walk_63 : decode cX3_walk 63 = .ok (.invokevirtual 29, 3) := by decide +kernel
theorem dX3_walk_66 : decode cX3_walk 66 = .ok (.ifCond .ne 10, 3) := by decide +kernel
theorem dX3_walk_69 : decode cX3_walk 69 = .ok (.aload_n 0, 1) := by decide +kernel
theorem dX3_walk_70 : decode cX3_walk 70 = .ok (.aload_n 1, 1) := by decide +kernel
theorem dX3_walk_71 : decode cX3_walk 71 = .ok (.invokevirtual 39, 3) := by decide +kernel
theorem dX3_walk_74 : decode cX3_walk 74 = .ok (.iconst (-1), 1) := by decide +kernel
theorem dX3_walk_75 : decode cX3_walk 75 = .ok (.ireturn, 1) := by decide +kernel
theorem dX3_walk_76 : decode cX3_walk 76 = .ok (.iinc 7 1, 3) := by decide +kernel
theorem dX3_walk_79 : decode cX3_walk 79 = .ok (.goto (-47), 3) := by decide +kernel
theorem dX3_walk_82 : decode cX3_walk 82 = .ok (.iload_n 3, 1) := by decide +kernel
theorem dX3_walk_83 : decode cX3_walk 83 = .ok (.ireturn, 1) := by decide +kernel
set_option maxRecDepth 20000 in
theorem ggX4_init_X1_init : GoodIn wsX4_init wsX1_init := goodIn_r _ [13, 14, 2, 3, 15, 16, 17, 18, 19, 20, 25, 26, 27, 28, 29, 30] (by decide +kernel) (by decide +kernel)
set_option maxRecDepth 20000 in
theorem gX4_init_X1_init_n24 : GoodIn wsX4_init (wsX1_init) := ggX4_init_X1_init
theorem dX4_init_0 : decode cX4_init 0 = .ok (.aload_n 0, 1) := by decide +kernel
theorem dX4_init_1 : decode cX4_init 1 = .ok (.invokespecial 3, 3) := by decide +kernel
theorem dX4_init_4 : decode cX4_init 4 = .ok (.aload_n 0, 1) := by decide +kernel
theorem dX4_init_5 : decode cX4_init 5 = .ok (.bipush 60, 2) := by decide +kernel
theorem dX4_init_7 : decode cX4_init 7 = .ok (.newarray .int, 2) := by decide +kernel
theorem dX4_init_9 : decode cX4_init 9 = .ok (.putfield 9, 3) := by decide +kernel
theorem dX4_init_12 : decode cX4_init 12 = .ok (.aload_n 0, 1) := by decide +kernel
theorem dX4_init_13 : decode cX4_init 13 = .ok (.iconst 0, 1) := by decide +kernel
theorem dX4_init_14 : decode cX4_init 14 = .ok (.putfield 15, 3) := by decide +kernel
theorem dX4_init_17 : decode cX4_init 17 = .ok (.aload_n 0, 1) := by decide +kernel
theorem dX4_init_18 : decode cX4_init 18 = .ok (.iconst 0, 1) := by decide +kernel
theorem dX4_init_19 : decode cX4_init 19 = .ok (.putfield 19, 3) := by decide +kernel
theorem dX4_init_22 : decode cX4_init 22 = .ok (.aload_n 0, 1) := by decide +kernel
theorem dX4_init_23 : decode cX4_init 23 = .ok (.new 22, 3) := by decide +kernel
theorem dX4_init_26 : decode cX4_init 26 = .ok (.dup, 1) := by decide +kernel
theorem dX4_init_27 : decode cX4_init 27 = .ok (.invokespecial 24, 3) := by decide +kernel
theorem dX4_init_30 : decode cX4_init 30 = .ok (.putfield 25, 3) := by decide +kernel
theorem dX4_init_33 : decode cX4_init 33 = .ok (.return_, 1) := by decide +kernel
end
section
/-! ===== BEGIN .. of methods that hand back an object of the pool ===== -/
section
variable {p : Program} {l : Launch} {e : Env} {R : Room} {s : State} {m : MethodId} {args : Array Value} {below : List Frame} {meth : Method} {c : Code} {H : Heap} {locs : List Loc} {cells slots : Nat} {Q : State → Prop}
variable {mc ms : Nat} {free : Addr → Prop} {A0 A1 : Nat → Prop} {H0 : Heap} {a : Array Value} {pc : Nat} {ls : Array Slot} {st0 rest : List Value}
theorem vx_callq {S SX : Type} {post : Option Nat → S → Prop} {px : SX → Prop} {B : S → State → Prop} {BX : String → SX → State → Prop} {AX : Nat → Prop} (hr : vx_Run p l e R s m args below meth c H locs cells slots mc ms (F0 m pc ls st0) rest (va_Qq post B A1 a) (vx_X px BX AX) free) (hS : va_S A0 H0 H locs) (hA : ∀ q, q < H.size → A1 q → A0 q) (hf : ∀ q, free q → A0 q) (hAX : ∀ q, q < H.size → AX q → A0 q)
    (kx : ∀ (E : String) (ce : Cell) (q9 : Addr) (u : SX) (t : State) (H1 : Heap) (locs1 : List Loc), t.heap = H1 → s.vm.Alike t.vm → px u → BX E u t → H.size ≤ H1.size → (∀ q : Nat, q < H.size → ¬ AX q → H1[q]? = H[q]?) → va_S A0 H0 H1 locs1 → H1[q9]? = some ce → ce.vm = .none → s.vm.findClass E = some ce.cls → vx_W p l e R s m args below meth c H1 locs1 (cells + mc) (slots + ms) Q (F0 m pc ls rest) q9)
    (kk : ∀ (r : Option Nat) (u : S) (t : State) (H1 : Heap) (locs1 : List Loc), t.heap = H1 → s.vm.Alike t.vm → post r u → B u t → H.size ≤ H1.size → (∀ q : Nat, q < H.size → ¬ A1 q → H1[q]? = H[q]?) → va_S A0 H0 H1 locs1 → W p l e R s m args below meth c H1 locs1 (cells + mc) (slots + ms) Q (F0 m (pc + 3) ls (va_rf r :: rest))) : W p l e R s m args below meth c H locs cells slots Q (F0 m pc ls st0) := by
  intro T hT X
  rcases hr T hT X with ⟨v, st₀, t, T', L, h0, X', hL, e1, e2, ⟨⟨r, u, hv, hp, hb⟩, hF⟩, st⟩ | ⟨q, st₀, t, T', L, E, ce, h0, X', hL, e1, e2, ⟨u, hp, hb, hF⟩, hce, hcv, hcl, st⟩
  · cases hv
    obtain ⟨k1, k2, k3⟩ := vx_keep h0 e1 hS hA hf hL hF
    obtain ⟨t2, a1, b1⟩ := kk r u t T'.heap (locs ++ L) e1.symm (by rw [← e2]; exact X'.warmed.alike) hp hb k1 k2 k3 T' rfl X'
    exact ⟨t2, st t2 a1, b1⟩
  · obtain ⟨k1, k2, k3⟩ := vx_keep h0 e1 hS hAX hf hL hF
    obtain ⟨t2, a1, b1⟩ := kx E ce q u t T'.heap (locs ++ L) e1.symm (by rw [← e2]; exact X'.warmed.alike) hp hb k1 k2 k3 (by rw [e1]; exact hce) hcv hcl T' rfl X'
    exact ⟨t2, st.trans a1, b1⟩
end
/-! ===== END ===== -/
end
section
set_option maxRecDepth 20000 in
theorem ggX5_init_X3_init : GoodIn wsX5_init wsX3_init := goodIn_r _ [22, 23, 2, 3, 24, 25, 26, 27, 17, 18, 28, 29, 30, 31, 32, 33, 34, 35, 36, 37, 38, 39, 40, 41, 70, 71, 72, 84, 85, 86, 87, 88, 89, 90, 91, 92, 93] (by decide +kernel) (by decide +kernel)
set_option maxRecDepth 20000 in
theorem gX5_init_X3_init : GoodIn wsX5_init (wsX3_init) := ggX5_init_X3_init
set_option maxRecDepth 20000 in
theorem ggX5_init_X0_init : GoodIn wsX5_init wsX0_init := goodIn_r _ [44, 45, 2, 3, 46, 47, 48, 49, 5, 6, 50, 21, 22, 23, 24, 25, 26, 27, 17, 18, 28, 29, 30, 31, 32, 33, 34, 35, 36, 37, 38, 39, 40, 41, 77, 78, 79, 70, 71, 72, 84, 85, 86, 87, 88, 89, 90, 91, 92, 93] (by decide +kernel) (by decide +kernel)
set_option maxRecDepth 20000 in
theorem gX5_init_X0_init : GoodIn wsX5_init (wsX0_init) := ggX5_init_X0_init
set_option maxRecDepth 20000 in
theorem ggX5_init_X4_init : GoodIn wsX5_init wsX4_init := goodIn_r _ [52, 53, 2, 3, 39, 54, 55, 56, 57, 58, 59, 60, 61, 62, 63, 64, 65, 66, 67, 68, 69, 80, 81, 82, 83, 94, 95, 96, 97, 98, 99] (by decide +kernel) (by decide +kernel)
set_option maxRecDepth 20000 in
theorem gX5_init_X4_init_n25 : GoodIn wsX5_init (wsX4_init) := ggX5_init_X4_init
set_option maxRecDepth 20000 in
theorem ggX5_init_X2_init : GoodIn wsX5_init wsX2_init := goodIn_r _ [29, 30, 2, 3, 31, 32, 33, 34, 35, 36, 37, 38, 39, 40, 41, 84, 85, 86, 87, 88, 89, 90, 91, 92, 93] (by decide +kernel) (by decide +kernel)
set_option maxRecDepth 20000 in
theorem gX5_init_X2_init_n32 : GoodIn wsX5_init (wsX2_init) := ggX5_init_X2_init
theorem dX5_init_0 : decode cX5_init 0 = .ok (.aload_n 0, 1) := by decide +kernel
theorem dX5_init_1 : decode cX5_init 1 = .ok (.invokespecial 1, 3) := by decide +kernel
theorem dX5_init_4 : decode cX5_init 4 = .ok (.aload_n 0, 1) := by decide +kernel
theorem dX5_init_5 : decode cX5_init 5 = .ok (.new 7, 3) := by decide +kernel
theorem dX5_init_8 : decode cX5_init 8 = .ok (.dup, 1) := by decide +kernel
theorem dX5_init_9 : decode cX5_init 9 = .ok (.invokespecial 9, 3) := by decide +kernel
theorem dX5_init_12 : decode cX5_init 12 = .ok (.putfield 10, 3) := by decide +kernel
theorem dX5_init_15 : decode cX5_init 15 = .ok (.aload_n 0, 1) := by decide +kernel
theorem dX5_init_16 : decode cX5_init 16 = .ok (.new 16, 3) := by decide +kernel
theorem dX5_init_19 : decode cX5_init 19 = .ok (.dup, 1) := by decide +kernel
theorem dX5_init_20 : decode cX5_init 20 = .ok (.invokespecial 18, 3) := by decide +kernel
theorem dX5_init_23 : decode cX5_init 23 = .ok (.putfield 19, 3) := by decide +kernel
theorem dX5_init_26 : decode cX5_init 26 = .ok (.aload_n 0, 1) := by decide +kernel
theorem dX5_init_27 : decode cX5_init 27 = .ok (.new 23, 3) := by decide +kernel
theorem dX5_init_30 : decode cX5_init 30 = .ok (.dup, 1) := by decide +kernel
theorem dX5_init_31 : decode cX5_init 31 = .ok (.invokespecial 25, 3) := by decide +kernel
theorem dX5_init_34 : decode cX5_init 34 = .ok (.putfield 26, 3) := by decide +kernel
theorem dX5_init_37 : decode cX5_init 37 = .ok (.aload_n 0, 1) := by decide +kernel
theorem dX5_init_38 : decode cX5_init 38 = .ok (.new 30, 3) := by decide +kernel
theorem dX5_init_41 : decode cX5_init 41 = .ok (.dup, 1) := by decide +kernel
theorem dX5_init_42 : decode cX5_init 42 = .ok (.invokespecial 32, 3) := by decide +kernel
theorem dX5_init_45 : decode cX5_init 45 = .ok (.putfield 33, 3) := by decide +kernel
theorem dX5_init_48 : decode cX5_init 48 = .ok (.return_, 1) := by decide +kernel
set_option maxRecDepth 20000 in
theorem ggX5_put_X5_rigOf : GoodIn wsX5_put wsX5_rigOf := goodIn_ca (goodIn_r _ [10, 11, 12, 2, 13, 111, 112, 113, 114, 125, 126, 127] (by decide +kernel) (by decide +kernel)) (goodIn_sub (fun _ h => List.mem_cons_of_mem _ (List.mem_append_left _ (List.mem_append_right _ h))) (by decide +kernel))
set_option maxRecDepth 20000 in
theorem gX5_put_X5_rigOf : GoodIn wsX5_put (wsV RX5 37 RX5 yX5_rigOf wsX5_rigOf) := goodIn_app (goodIn_of _ (by decide +kernel)) ggX5_put_X5_rigOf
set_option maxRecDepth 20000 in
theorem ggX5_put_X5_demandRange : GoodIn wsX5_put wsX5_demandRange := goodIn_ca (goodIn_r _ [16, 17, 18] (by decide +kernel) (by decide +kernel)) (goodIn_sub (fun _ h => List.mem_cons_of_mem _ (List.mem_append_right _ h)) (by decide +kernel))
set_option maxRecDepth 20000 in
theorem gX5_put_X5_demandRange : GoodIn wsX5_put (va_wsS RX5 41 yX5_demandRange wsX5_demandRange) := goodIn_app (goodIn_of _ (by decide +kernel)) ggX5_put_X5_demandRange
set_option maxRecDepth 20000 in
theorem ggX5_put_X0_save : GoodIn wsX5_put wsX0_save := goodIn_r _ [23, 24, 25, 26, 27, 28, 29, 30, 31, 32, 33, 34, 35, 36, 37, 38, 39, 40, 41, 42, 43, 44, 45, 46, 47, 48, 49, 50, 51, 52, 53, 128, 129, 130, 125, 126, 127, 115, 116, 117, 118, 119, 120, 121, 122, 123, 124] (by decide +kernel) (by decide +kernel)
set_option maxRecDepth 20000 in
theorem gX5_put_X0_save : GoodIn wsX5_put (wsV RX5 45 RX0 yX0_save wsX0_save) := goodIn_app (goodIn_of _ (by decide +kernel)) ggX5_put_X0_save
set_option maxRecDepth 20000 in
theorem ggX5_put_X3_fallsNow : GoodIn wsX5_put wsX3_fallsNow := goodIn_r _ [57, 58, 59, 60, 61, 42, 62, 63, 64, 65, 66, 67, 68, 29, 69, 70, 71, 72, 73, 48, 45, 44, 74, 75, 76, 77, 78, 79, 80, 81, 46, 53, 52, 82, 83, 84, 85, 86, 87, 88, 89, 49, 90, 91, 92, 93, 47, 94, 95, 96, 97, 98, 99, 100, 101, 102, 103, 104, 34, 105, 37, 106, 107, 108, 109, 110, 51, 115, 116, 117, 118, 119, 120, 121, 122, 123, 124, 125, 126, 127] (by decide +kernel) (by decide +kernel)
set_option maxRecDepth 20000 in
theorem gX5_put_X3_fallsNow : GoodIn wsX5_put (wsV RX5 59 RX3 yX3_fallsNow wsX3_fallsNow) := goodIn_app (goodIn_of _ (by decide +kernel)) ggX5_put_X3_fallsNow
theorem dX5_put_0 : decode cX5_put 0 = .ok (.aload_n 0, 1) := by decide +kernel
theorem dX5_put_1 : decode cX5_put 1 = .ok (.iload_n 1, 1) := by decide +kernel
theorem dX5_put_2 : decode cX5_put 2 = .ok (.invokevirtual 37, 3) := by decide +kernel
theorem dX5_put_5 : decode cX5_put 5 = .ok (.astore 5, 2) := by decide +kernel
theorem dX5_put_7 : decode cX5_put 7 = .ok (.iload_n 2, 1) := by decide +kernel
theorem dX5_put_8 : decode cX5_put 8 = .ok (.bipush 10, 2) := by decide +kernel
theorem dX5_put_10 : decode cX5_put 10 = .ok (.bipush 100, 2) := by decide +kernel
theorem dX5_put_12 : decode cX5_put 12 = .ok (.invokestatic 41, 3) := by decide +kernel
theorem dX5_put_15 : decode cX5_put 15 = .ok (.iload_n 3, 1) := by decide +kernel
theorem dX5_put_16 : decode cX5_put 16 = .ok (.bipush 50, 2) := by decide +kernel
theorem dX5_put_18 : decode cX5_put 18 = .ok (.sipush 300, 3) := by decide +kernel
theorem dX5_put_21 : decode cX5_put 21 = .ok (.invokestatic 41, 3) := by decide +kernel
theorem dX5_put_24 : decode cX5_put 24 = .ok (.iload 4, 2) := by decide +kernel
theorem dX5_put_26 : decode cX5_put 26 = .ok (.iconst 1, 1) := by decide +kernel
theorem dX5_put_27 : decode cX5_put 27 = .ok (.bipush 100, 2) := by decide +kernel
theorem dX5_put_29 : decode cX5_put 29 = .ok (.invokestatic 41, 3) := by decide +kernel
theorem dX5_put_32 : decode cX5_put 32 = .ok (.aload_n 0, 1) := by decide +kernel
theorem dX5_put_33 : decode cX5_put 33 = .ok (.getfield 19, 3) := by decide +kernel
theorem dX5_put_36 : decode cX5_put 36 = .ok (.aload_n 0, 1) := by decide +kernel
theorem dX5_put_37 : decode cX5_put 37 = .ok (.getfield 10, 3) := by decide +kernel
theorem dX5_put_40 : decode cX5_put 40 = .ok (.invokevirtual 45, 3) := by decide +kernel
theorem dX5_put_43 : decode cX5_put 43 = .ok (.aload 5, 2) := by decide +kernel
theorem dX5_put_45 : decode cX5_put 45 = .ok (.iload_n 2, 1) := by decide +kernel
theorem dX5_put_46 : decode cX5_put 46 = .ok (.putfield 49, 3) := by decide +kernel
theorem dX5_put_49 : decode cX5_put 49 = .ok (.aload 5, 2) := by decide +kernel
theorem dX5_put_51 : decode cX5_put 51 = .ok (.iload_n 3, 1) := by decide +kernel
theorem dX5_put_52 : decode cX5_put 52 = .ok (.putfield 53, 3) := by decide +kernel
theorem dX5_put_55 : decode cX5_put 55 = .ok (.aload 5, 2) := by decide +kernel
theorem dX5_put_57 : decode cX5_put 57 = .ok (.iload 4, 2) := by decide +kernel
theorem dX5_put_59 : decode cX5_put 59 = .ok (.putfield 56, 3) := by decide +kernel
theorem dX5_put_62 : decode cX5_put 62 = .ok (.aload_n 0, 1) := by decide +kernel
theorem dX5_put_63 : decode cX5_put 63 = .ok (.getfield 10, 3) := by decide +kernel
theorem dX5_put_66 : decode cX5_put 66 = .ok (.aload 5, 2) := by decide +kernel
theorem dX5_put_68 : decode cX5_put 68 = .ok (.invokevirtual 59, 3) := by decide +kernel
theorem dX5_put_71 : decode cX5_put 71 = .ok (.ifCond .eq 7, 3) := by decide +kernel
theorem dX5_put_74 : decode cX5_put 74 = .ok (.iconst 1, 1) := by decide +kernel
theorem dX5_put_75 : decode cX5_put 75 = .ok (.goto 4, 3) := by decide +kernel
theorem dX5_put_78 : decode cX5_put 78 = .ok (.iconst 0, 1) := by decide +kernel
theorem dX5_put_79 : decode cX5_put 79 = .ok (.ireturn, 1) := by decide +kernel
set_option maxRecDepth 20000 in
theorem ggX5_kinds_X5_rigOf : GoodIn wsX5_kinds wsX5_rigOf := goodIn_ca (goodIn_r _ [9, 10, 11, 2, 12, 110, 111, 112, 113, 124, 125, 126] (by decide +kernel) (by decide +kernel)) (goodIn_sub (fun _ h => List.mem_cons_of_mem _ (List.mem_append_left _ (List.mem_append_right _ h))) (by decide +kernel))
set_option maxRecDepth 20000 in
theorem gX5_kinds_X5_rigOf : GoodIn wsX5_kinds (wsV RX5 37 RX5 yX5_rigOf wsX5_rigOf) := goodIn_app (goodIn_of _ (by decide +kernel)) ggX5_kinds_X5_rigOf
set_option maxRecDepth 20000 in
theorem ggX5_kinds_X5_demandRange : GoodIn wsX5_kinds wsX5_demandRange := goodIn_ca (goodIn_r _ [15, 16, 17] (by decide +kernel) (by decide +kernel)) (goodIn_sub (fun _ h => List.mem_cons_of_mem _ (List.mem_append_right _ h)) (by decide +kernel))
set_option maxRecDepth 20000 in
theorem gX5_kinds_X5_demandRange : GoodIn wsX5_kinds (va_wsS RX5 41 yX5_demandRange wsX5_demandRange) := goodIn_app (goodIn_of _ (by decide +kernel)) ggX5_kinds_X5_demandRange
set_option maxRecDepth 20000 in
theorem ggX5_kinds_X0_save : GoodIn wsX5_kinds wsX0_save := goodIn_r _ [22, 23, 24, 25, 26, 27, 28, 29, 30, 31, 32, 33, 34, 35, 36, 37, 38, 39, 40, 41, 42, 43, 44, 45, 46, 47, 48, 49, 50, 51, 52, 127, 128, 129, 124, 125, 126, 114, 115, 116, 117, 118, 119, 120, 121, 122, 123] (by decide +kernel) (by decide +kernel)
set_option maxRecDepth 20000 in
theorem gX5_kinds_X0_save : GoodIn wsX5_kinds (wsV RX5 45 RX0 yX0_save wsX0_save) := goodIn_app (goodIn_of _ (by decide +kernel)) ggX5_kinds_X0_save
set_option maxRecDepth 20000 in
theorem ggX5_kinds_X3_fallsNow : GoodIn wsX5_kinds wsX3_fallsNow := goodIn_r _ [56, 57, 58, 59, 60, 41, 61, 62, 63, 64, 65, 66, 67, 28, 68, 69, 70, 71, 72, 47, 44, 43, 73, 74, 75, 76, 77, 78, 79, 80, 45, 52, 51, 81, 82, 83, 84, 85, 86, 87, 88, 48, 89, 90, 91, 92, 46, 93, 94, 95, 96, 97, 98, 99, 100, 101, 102, 103, 33, 104, 36, 105, 106, 107, 108, 109, 50, 114, 115, 116, 117, 118, 119, 120, 121, 122, 123, 124, 125, 126] (by decide +kernel) (by decide +kernel)
set_option maxRecDepth 20000 in
theorem gX5_kinds_X3_fallsNow : GoodIn wsX5_kinds (wsV RX5 59 RX3 yX3_fallsNow wsX3_fallsNow) := goodIn_app (goodIn_of _ (by decide +kernel)) ggX5_kinds_X3_fallsNow
theorem dX5_kinds_0 : decode cX5_kinds 0 = .ok (.aload_n 0, 1) := by decide +kernel
theorem dX5_kinds_1 : decode cX5_kinds 1 = .ok (.iload_n 1, 1) := by decide +kernel
theorem dX5_kinds_2 : decode cX5_kinds 2 = .ok (.invokevirtual 37, 3) := by decide +kernel
theorem dX5_kinds_5 : decode cX5_kinds 5 = .ok (.astore 4, 2) := by decide +kernel
theorem dX5_kinds_7 : decode cX5_kinds 7 = .ok (.iload_n 2, 1) := by decide +kernel
theorem dX5_kinds_8 : decode cX5_kinds 8 = .ok (.iconst 0, 1) := by decide +kernel
theorem dX5_kinds_9 : decode cX5_kinds 9 = .ok (.iconst 3, 1) := by decide +kernel
theorem dX5_kinds_10 : decode cX5_kinds 10 = .ok (.invokestatic 41, 3) := by decide +kernel
theorem dX5_kinds_13 : decode cX5_kinds 13 = .ok (.iload_n 3, 1) := by decide +kernel
theorem dX5_kinds_14 : decode cX5_kinds 14 = .ok (.iconst 0, 1) := by decide +kernel
theorem dX5_kinds_15 : decode cX5_kinds 15 = .ok (.iconst 3, 1) := by decide +kernel
theorem dX5_kinds_16 : decode cX5_kinds 16 = .ok (.invokestatic 41, 3) := by decide +kernel
theorem dX5_kinds_19 : decode cX5_kinds 19 = .ok (.aload_n 0, 1) := by decide +kernel
theorem dX5_kinds_20 : decode cX5_kinds 20 = .ok (.getfield 19, 3) := by decide +kernel
theorem dX5_kinds_23 : decode cX5_kinds 23 = .ok (.aload_n 0, 1) := by decide +kernel
theorem dX5_kinds_24 : decode cX5_kinds 24 = .ok (.getfield 10, 3) := by decide +kernel
theorem dX5_kinds_27 : decode cX5_kinds 27 = .ok (.invokevirtual 45, 3) := by decide +kernel
theorem dX5_kinds_30 : decode cX5_kinds 30 = .ok (.aload 4, 2) := by decide +kernel
theorem dX5_kinds_32 : decode cX5_kinds 32 = .ok (.iload_n 2, 1) := by decide +kernel
theorem dX5_kinds_33 : decode cX5_kinds 33 = .ok (.putfield 63, 3) := by decide +kernel
theorem dX5_kinds_36 : decode cX5_kinds 36 = .ok (.aload 4, 2) := by decide +kernel
theorem dX5_kinds_38 : decode cX5_kinds 38 = .ok (.iload_n 3, 1) := by decide +kernel
theorem dX5_kinds_39 : decode cX5_kinds 39 = .ok (.putfield 66, 3) := by decide +kernel
theorem dX5_kinds_42 : decode cX5_kinds 42 = .ok (.aload_n 0, 1) := by decide +kernel
theorem dX5_kinds_43 : decode cX5_kinds 43 = .ok (.getfield 10, 3) := by decide +kernel
theorem dX5_kinds_46 : decode cX5_kinds 46 = .ok (.aload 4, 2) := by decide +kernel
theorem dX5_kinds_48 : decode cX5_kinds 48 = .ok (.invokevirtual 59, 3) := by decide +kernel
theorem dX5_kinds_51 : decode cX5_kinds 51 = .ok (.ifCond .eq 7, 3) := by decide +kernel
theorem dX5_kinds_54 : decode cX5_kinds 54 = .ok (.iconst 1, 1) := by decide +kernel
theorem dX5_kinds_55 : decode cX5_kinds 55 = .ok (.goto 4, 3) := by decide +kernel
theorem dX5_kinds_58 : decode cX5_kinds 58 = .ok (.iconst 0, 1) := by decide +kernel
theorem dX5_kinds_59 : decode cX5_kinds 59 = .ok (.ireturn, 1) := by decide +kernel
set_option maxRecDepth 20000 in
theorem ggX5_rope_X5_rigOf : GoodIn wsX5_rope wsX5_rigOf := goodIn_ca (goodIn_r _ [8, 9, 10, 2, 11, 109, 110, 111, 112, 123, 124, 125] (by decide +kernel) (by decide +kernel)) (goodIn_sub (fun _ h => List.mem_cons_of_mem _ (List.mem_append_left _ (List.mem_append_right _ h))) (by decide +kernel))
set_option maxRecDepth 20000 in
theorem gX5_rope_X5_rigOf : GoodIn wsX5_rope (wsV RX5 37 RX5 yX5_rigOf wsX5_rigOf) := goodIn_app (goodIn_of _ (by decide +kernel)) ggX5_rope_X5_rigOf
set_option maxRecDepth 20000 in
theorem ggX5_rope_X5_demandRange : GoodIn wsX5_rope wsX5_demandRange := goodIn_ca (goodIn_r _ [14, 15, 16] (by decide +kernel) (by decide +kernel)) (goodIn_sub (fun _ h => List.mem_cons_of_mem _ (List.mem_append_right _ h)) (by decide +kernel))
set_option maxRecDepth 20000 in
theorem gX5_rope_X5_demandRange : GoodIn wsX5_rope (va_wsS RX5 41 yX5_demandRange wsX5_demandRange) := goodIn_app (goodIn_of _ (by decide +kernel)) ggX5_rope_X5_demandRange
set_option maxRecDepth 20000 in
theorem ggX5_rope_X0_save : GoodIn wsX5_rope wsX0_save := goodIn_r _ [21, 22, 23, 24, 25, 26, 27, 28, 29, 30, 31, 32, 33, 34, 35, 36, 37, 38, 39, 40, 41, 42, 43, 44, 45, 46, 47, 48, 49, 50, 51, 126, 127, 128, 123, 124, 125, 113, 114, 115, 116, 117, 118, 119, 120, 121, 122] (by decide +kernel) (by decide +kernel)
set_option maxRecDepth 20000 in
theorem gX5_rope_X0_save : GoodIn wsX5_rope (wsV RX5 45 RX0 yX0_save wsX0_save) := goodIn_app (goodIn_of _ (by decide +kernel)) ggX5_rope_X0_save
set_option maxRecDepth 20000 in
theorem ggX5_rope_X3_fallsNow : GoodIn wsX5_rope wsX3_fallsNow := goodIn_r _ [55, 56, 57, 58, 59, 40, 60, 61, 62, 63, 64, 65, 66, 27, 67, 68, 69, 70, 71, 46, 43, 42, 72, 73, 74, 75, 76, 77, 78, 79, 44, 51, 50, 80, 81, 82, 83, 84, 85, 86, 87, 47, 88, 89, 90, 91, 45, 92, 93, 94, 95, 96, 97, 98, 99, 100, 101, 102, 32, 103, 35, 104, 105, 106, 107, 108, 49, 113, 114, 115, 116, 117, 118, 119, 120, 121, 122, 123, 124, 125] (by decide +kernel) (by decide +kernel)
set_option maxRecDepth 20000 in
theorem gX5_rope_X3_fallsNow : GoodIn wsX5_rope (wsV RX5 59 RX3 yX3_fallsNow wsX3_fallsNow) := goodIn_app (goodIn_of _ (by decide +kernel)) ggX5_rope_X3_fallsNow
theorem dX5_rope_0 : decode cX5_rope 0 = .ok (.aload_n 0, 1) := by decide +kernel
theorem dX5_rope_1 : decode cX5_rope 1 = .ok (.iload_n 1, 1) := by decide +kernel
theorem dX5_rope_2 : decode cX5_rope 2 = .ok (.invokevirtual 37, 3) := by decide +kernel
theorem dX5_rope_5 : decode cX5_rope 5 = .ok (.astore_n 3, 1) := by decide +kernel
theorem dX5_rope_6 : decode cX5_rope 6 = .ok (.iload_n 2, 1) := by decide +kernel
theorem dX5_rope_7 : decode cX5_rope 7 = .ok (.iconst 0, 1) := by decide +kernel
theorem dX5_rope_8 : decode cX5_rope 8 = .ok (.sipush 200, 3) := by decide +kernel
theorem dX5_rope_11 : decode cX5_rope 11 = .ok (.invokestatic 41, 3) := by decide +kernel
theorem dX5_rope_14 : decode cX5_rope 14 = .ok (.aload_n 0, 1) := by decide +kernel
theorem dX5_rope_15 : decode cX5_rope 15 = .ok (.getfield 19, 3) := by decide +kernel
theorem dX5_rope_18 : decode cX5_rope 18 = .ok (.aload_n 0, 1) := by decide +kernel
theorem dX5_rope_19 : decode cX5_rope 19 = .ok (.getfield 10, 3) := by decide +kernel
theorem dX5_rope_22 : decode cX5_rope 22 = .ok (.invokevirtual 45, 3) := by decide +kernel
theorem dX5_rope_25 : decode cX5_rope 25 = .ok (.aload_n 3, 1) := by decide +kernel
theorem dX5_rope_26 : decode cX5_rope 26 = .ok (.iload_n 2, 1) := by decide +kernel
theorem dX5_rope_27 : decode cX5_rope 27 = .ok (.putfield 69, 3) := by decide +kernel
theorem dX5_rope_30 : decode cX5_rope 30 = .ok (.aload_n 0, 1) := by decide +kernel
theorem dX5_rope_31 : decode cX5_rope 31 = .ok (.getfield 10, 3) := by decide +kernel
theorem dX5_rope_34 : decode cX5_rope 34 = .ok (.aload_n 3, 1) := by decide +kernel
theorem dX5_rope_35 : decode cX5_rope 35 = .ok (.invokevirtual 59, 3) := by decide +kernel
theorem dX5_rope_38 : decode cX5_rope 38 = .ok (.ifCond .eq 7, 3) := by decide +kernel
theorem dX5_rope_41 : decode cX5_rope 41 = .ok (.iconst 1, 1) := by decide +kernel
theorem dX5_rope_42 : decode cX5_rope 42 = .ok (.goto 4, 3) := by decide +kernel
theorem dX5_rope_45 : decode cX5_rope 45 = .ok (.iconst 0, 1) := by decide +kernel
theorem dX5_rope_46 : decode cX5_rope 46 = .ok (.ireturn, 1) := by decide +kernel
set_option maxRecDepth 20000 in
theorem ggX5_on_X5_rigOf : GoodIn wsX5_on wsX5_rigOf := goodIn_ca (goodIn_r _ [10, 11, 12, 4, 13, 119, 120, 121, 122, 133, 134, 135] (by decide +kernel) (by decide +kernel)) (goodIn_sub (fun _ h => List.mem_cons_of_mem _ (List.mem_append_left _ (List.mem_append_right _ h))) (by decide +kernel))
set_option maxRecDepth 20000 in
theorem gX5_on_X5_rigOf : GoodIn wsX5_on (wsV RX5 37 RX5 yX5_rigOf wsX5_rigOf) := goodIn_app (goodIn_of _ (by decide +kernel)) ggX5_on_X5_rigOf
set_option maxRecDepth 20000 in
theorem ggX5_on_X5_demandRange : GoodIn wsX5_on wsX5_demandRange := goodIn_ca (goodIn_r _ [16, 17, 18] (by decide +kernel) (by decide +kernel)) (goodIn_sub (fun _ h => List.mem_cons_of_mem _ (List.mem_append_right _ h)) (by decide +kernel))
set_option maxRecDepth 20000 in
theorem gX5_on_X5_demandRange : GoodIn wsX5_on (va_wsS RX5 41 yX5_demandRange wsX5_demandRange) := goodIn_app (goodIn_of _ (by decide +kernel)) ggX5_on_X5_demandRange
set_option maxRecDepth 20000 in
theorem ggX5_on_X2_isFull : GoodIn wsX5_on wsX2_isFull := goodIn_r _ [23, 24, 123, 124, 125, 126, 127, 128, 129, 130, 131, 132] (by decide +kernel) (by decide +kernel)
set_option maxRecDepth 20000 in
theorem gX5_on_X2_isFull : GoodIn wsX5_on (wsV RX5 72 RX2 yX2_isFull wsX2_isFull) := goodIn_app (goodIn_of _ (by decide +kernel)) ggX5_on_X2_isFull
set_option maxRecDepth 20000 in
theorem ggX5_on_X0_save : GoodIn wsX5_on wsX0_save := goodIn_r _ [29, 30, 31, 32, 33, 34, 35, 36, 37, 38, 39, 40, 41, 42, 43, 44, 45, 46, 47, 22, 48, 49, 50, 51, 52, 53, 54, 55, 24, 56, 57, 136, 137, 138, 133, 134, 135, 123, 124, 125, 126, 127, 128, 129, 130, 131, 132] (by decide +kernel) (by decide +kernel)
set_option maxRecDepth 20000 in
theorem gX5_on_X0_save : GoodIn wsX5_on (wsV RX5 45 RX0 yX0_save wsX0_save) := goodIn_app (goodIn_of _ (by decide +kernel)) ggX5_on_X0_save
set_option maxRecDepth 20000 in
theorem ggX5_on_X2_add : GoodIn wsX5_on wsX2_add := goodIn_r _ [61, 24, 56, 57, 123, 124, 125, 126, 127, 128, 129, 130, 131, 132] (by decide +kernel) (by decide +kernel)
set_option maxRecDepth 20000 in
theorem gX5_on_X2_add : GoodIn wsX5_on (wsV RX5 83 RX2 yX2_add wsX2_add) := goodIn_app (goodIn_of _ (by decide +kernel)) ggX5_on_X2_add
set_option maxRecDepth 20000 in
theorem ggX5_on_X3_fallsNow : GoodIn wsX5_on wsX3_fallsNow := goodIn_r _ [65, 66, 67, 68, 69, 22, 70, 71, 72, 73, 74, 75, 76, 35, 77, 78, 79, 80, 81, 53, 50, 49, 82, 83, 84, 85, 86, 87, 88, 89, 51, 57, 56, 90, 91, 92, 93, 94, 95, 96, 97, 54, 98, 99, 100, 101, 52, 102, 103, 104, 105, 106, 107, 108, 109, 110, 111, 112, 40, 113, 43, 114, 115, 116, 117, 118, 24, 123, 124, 125, 126, 127, 128, 129, 130, 131, 132, 133, 134, 135] (by decide +kernel) (by decide +kernel)
set_option maxRecDepth 20000 in
theorem gX5_on_X3_fallsNow : GoodIn wsX5_on (wsV RX5 59 RX3 yX3_fallsNow wsX3_fallsNow) := goodIn_app (goodIn_of _ (by decide +kernel)) ggX5_on_X3_fallsNow
theorem dX5_on_0 : decode cX5_on 0 = .ok (.aload_n 0, 1) := by decide +kernel
theorem dX5_on_1 : decode cX5_on 1 = .ok (.iload_n 1, 1) := by decide +kernel
theorem dX5_on_2 : decode cX5_on 2 = .ok (.invokevirtual 37, 3) := by decide +kernel
theorem dX5_on_5 : decode cX5_on 5 = .ok (.astore_n 3, 1) := by decide +kernel
theorem dX5_on_6 : decode cX5_on 6 = .ok (.iload_n 2, 1) := by decide +kernel
theorem dX5_on_7 : decode cX5_on 7 = .ok (.bipush 20, 2) := by decide +kernel
theorem dX5_on_9 : decode cX5_on 9 = .ok (.sipush 150, 3) := by decide +kernel
theorem dX5_on_12 : decode cX5_on 12 = .ok (.invokestatic 41, 3) := by decide +kernel
theorem dX5_on_15 : decode cX5_on 15 = .ok (.aload_n 3, 1) := by decide +kernel
theorem dX5_on_16 : decode cX5_on 16 = .ok (.invokevirtual 72, 3) := by decide +kernel
theorem dX5_on_19 : decode cX5_on 19 = .ok (.ifCond .eq 13, 3) := by decide +kernel
theorem dX5_on_22 : decode cX5_on 22 = .ok (.new 76, 3) := by decide +kernel
theorem dX5_on_25 : decode cX5_on 25 = .ok (.dup, 1) := by decide +kernel
theorem dX5_on_26 : decode cX5_on 26 = .ok (.ldc 78, 2) := by decide +kernel
theorem dX5_on_28 : decode cX5_on 28 = .ok (.invokespecial 80, 3) := by decide +kernel
theorem dX5_on_31 : decode cX5_on 31 = .ok (.athrow, 1) := by decide +kernel
theorem dX5_on_32 : decode cX5_on 32 = .ok (.aload_n 0, 1) := by decide +kernel
theorem dX5_on_33 : decode cX5_on 33 = .ok (.getfield 19, 3) := by decide +kernel
theorem dX5_on_36 : decode cX5_on 36 = .ok (.aload_n 0, 1) := by decide +kernel
theorem dX5_on_37 : decode cX5_on 37 = .ok (.getfield 10, 3) := by decide +kernel
theorem dX5_on_40 : decode cX5_on 40 = .ok (.invokevirtual 45, 3) := by decide +kernel
theorem dX5_on_43 : decode cX5_on 43 = .ok (.aload_n 3, 1) := by decide +kernel
theorem dX5_on_44 : decode cX5_on 44 = .ok (.iload_n 2, 1) := by decide +kernel
theorem dX5_on_45 : decode cX5_on 45 = .ok (.invokevirtual 83, 3) := by decide +kernel
theorem dX5_on_48 : decode cX5_on 48 = .ok (.aload_n 0, 1) := by decide +kernel
theorem dX5_on_49 : decode cX5_on 49 = .ok (.getfield 10, 3) := by decide +kernel
theorem dX5_on_52 : decode cX5_on 52 = .ok (.aload_n 3, 1) := by decide +kernel
theorem dX5_on_53 : decode cX5_on 53 = .ok (.invokevirtual 59, 3) := by decide +kernel
theorem dX5_on_56 : decode cX5_on 56 = .ok (.pop, 1) := by decide +kernel
theorem dX5_on_57 : decode cX5_on 57 = .ok (.aload_n 3, 1) := by decide +kernel
theorem dX5_on_58 : decode cX5_on 58 = .ok (.getfield 87, 3) := by decide +kernel
theorem dX5_on_61 : decode cX5_on 61 = .ok (.ireturn, 1) := by decide +kernel
set_option maxRecDepth 20000 in
theorem ggX5_off_X5_rigOf : GoodIn wsX5_off wsX5_rigOf := goodIn_ca (goodIn_r _ [8, 9, 10, 2, 11, 116, 117, 118, 119, 130, 131, 132] (by decide +kernel) (by decide +kernel)) (goodIn_sub (fun _ h => List.mem_cons_of_mem _ (List.mem_append_right _ h)) (by decide +kernel))
set_option maxRecDepth 20000 in
theorem gX5_off_X5_rigOf : GoodIn wsX5_off (wsV RX5 37 RX5 yX5_rigOf wsX5_rigOf) := goodIn_app (goodIn_of _ (by decide +kernel)) ggX5_off_X5_rigOf
set_option maxRecDepth 20000 in
theorem ggX5_off_X5_demandPerson : GoodIn wsX5_off wsX5_demandPerson := goodIn_ca (goodIn_r _ [14, 9, 10, 15, 16, 17, 18, 19, 20, 120, 121, 122, 123, 124, 125, 126, 127, 128, 129] (by decide +kernel) (by decide +kernel)) (goodIn_sub (fun _ h => List.mem_cons_of_mem _ (List.mem_append_right _ h)) (by decide +kernel))
set_option maxRecDepth 20000 in
theorem gX5_off_X5_demandPerson : GoodIn wsX5_off (va_wsS RX5 90 yX5_demandPerson wsX5_demandPerson) := goodIn_app (goodIn_of _ (by decide +kernel)) ggX5_off_X5_demandPerson
set_option maxRecDepth 20000 in
theorem ggX5_off_X0_save : GoodIn wsX5_off wsX0_save := goodIn_r _ [25, 26, 27, 28, 29, 30, 31, 32, 33, 34, 35, 36, 37, 38, 39, 40, 41, 42, 43, 18, 44, 45, 46, 47, 48, 49, 50, 51, 20, 52, 53, 133, 134, 135, 130, 131, 132, 120, 121, 122, 123, 124, 125, 126, 127, 128, 129] (by decide +kernel) (by decide +kernel)
set_option maxRecDepth 20000 in
theorem gX5_off_X0_save : GoodIn wsX5_off (wsV RX5 45 RX0 yX0_save wsX0_save) := goodIn_app (goodIn_of _ (by decide +kernel)) ggX5_off_X0_save
set_option maxRecDepth 20000 in
theorem ggX5_off_X2_remove : GoodIn wsX5_off wsX2_remove := goodIn_r _ [57, 52, 53, 20, 58, 16, 17, 18, 19, 120, 121, 122, 123, 124, 125, 126, 127, 128, 129] (by decide +kernel) (by decide +kernel)
set_option maxRecDepth 20000 in
theorem gX5_off_X2_remove : GoodIn wsX5_off (wsV RX5 94 RX2 yX2_remove wsX2_remove) := goodIn_app (goodIn_of _ (by decide +kernel)) ggX5_off_X2_remove
set_option maxRecDepth 20000 in
theorem ggX5_off_X3_fallsNow : GoodIn wsX5_off wsX3_fallsNow := goodIn_r _ [62, 63, 64, 65, 66, 18, 67, 68, 69, 70, 71, 72, 73, 31, 74, 75, 76, 77, 78, 49, 46, 45, 79, 80, 81, 82, 83, 84, 85, 86, 47, 53, 52, 87, 88, 89, 90, 91, 92, 93, 94, 50, 95, 96, 97, 98, 48, 99, 100, 101, 102, 103, 104, 105, 106, 107, 108, 109, 36, 110, 39, 111, 112, 113, 114, 115, 20, 120, 121, 122, 123, 124, 125, 126, 127, 128, 129, 130, 131, 132] (by decide +kernel) (by decide +kernel)
set_option maxRecDepth 20000 in
theorem gX5_off_X3_fallsNow : GoodIn wsX5_off (wsV RX5 59 RX3 yX3_fallsNow wsX3_fallsNow) := goodIn_app (goodIn_of _ (by decide +kernel)) ggX5_off_X3_fallsNow
theorem dX5_off_0 : decode cX5_off 0 = .ok (.aload_n 0, 1) := by decide +kernel
theorem dX5_off_1 : decode cX5_off 1 = .ok (.iload_n 1, 1) := by decide +kernel
theorem dX5_off_2 : decode cX5_off 2 = .ok (.invokevirtual 37, 3) := by decide +kernel
theorem dX5_off_5 : decode cX5_off 5 = .ok (.astore_n 3, 1) := by decide +kernel
theorem dX5_off_6 : decode cX5_off 6 = .ok (.aload_n 3, 1) := by decide +kernel
theorem dX5_off_7 : decode cX5_off 7 = .ok (.iload_n 2, 1) := by decide +kernel
theorem dX5_off_8 : decode cX5_off 8 = .ok (.invokestatic 90, 3) := by decide +kernel
theorem dX5_off_11 : decode cX5_off 11 = .ok (.aload_n 0, 1) := by decide +kernel
theorem dX5_off_12 : decode cX5_off 12 = .ok (.getfield 19, 3) := by decide +kernel
theorem dX5_off_15 : decode cX5_off 15 = .ok (.aload_n 0, 1) := by decide +kernel
theorem dX5_off_16 : decode cX5_off 16 = .ok (.getfield 10, 3) := by decide +kernel
theorem dX5_off_19 : decode cX5_off 19 = .ok (.invokevirtual 45, 3) := by decide +kernel
theorem dX5_off_22 : decode cX5_off 22 = .ok (.aload_n 3, 1) := by decide +kernel
theorem dX5_off_23 : decode cX5_off 23 = .ok (.iload_n 2, 1) := by decide +kernel
theorem dX5_off_24 : decode cX5_off 24 = .ok (.invokevirtual 94, 3) := by decide +kernel
theorem dX5_off_27 : decode cX5_off 27 = .ok (.aload_n 0, 1) := by decide +kernel
theorem dX5_off_28 : decode cX5_off 28 = .ok (.getfield 10, 3) := by decide +kernel
theorem dX5_off_31 : decode cX5_off 31 = .ok (.aload_n 3, 1) := by decide +kernel
theorem dX5_off_32 : decode cX5_off 32 = .ok (.invokevirtual 59, 3) := by decide +kernel
theorem dX5_off_35 : decode cX5_off 35 = .ok (.pop, 1) := by decide +kernel
theorem dX5_off_36 : decode cX5_off 36 = .ok (.aload_n 3, 1) := by decide +kernel
theorem dX5_off_37 : decode cX5_off 37 = .ok (.getfield 87, 3) := by decide +kernel
theorem dX5_off_40 : decode cX5_off 40 = .ok (.ireturn, 1) := by decide +kernel
set_option maxRecDepth 20000 in
theorem ggX5_climb_X5_rigOf : GoodIn wsX5_climb wsX5_rigOf := goodIn_ca (goodIn_r _ [7, 8, 9, 2, 10, 127, 128, 129, 130, 131, 132, 133] (by decide +kernel) (by decide +kernel)) (goodIn_sub (fun _ h => List.mem_cons_of_mem _ (List.mem_append_left _ (List.mem_append_right _ h))) (by decide +kernel))
set_option maxRecDepth 20000 in
theorem gX5_climb_X5_rigOf : GoodIn wsX5_climb (wsV RX5 37 RX5 yX5_rigOf wsX5_rigOf) := goodIn_app (goodIn_of _ (by decide +kernel)) ggX5_climb_X5_rigOf
set_option maxRecDepth 20000 in
theorem ggX5_climb_X5_demandPerson : GoodIn wsX5_climb wsX5_demandPerson := goodIn_ca (goodIn_r _ [13, 8, 9, 14, 15, 16, 17, 18, 19, 134, 135, 136, 137, 138, 139, 140, 141, 142, 143] (by decide +kernel) (by decide +kernel)) (goodIn_sub (fun _ h => List.mem_cons_of_mem _ (List.mem_append_left _ (List.mem_append_right _ h))) (by decide +kernel))
set_option maxRecDepth 20000 in
theorem gX5_climb_X5_demandPerson : GoodIn wsX5_climb (va_wsS RX5 90 yX5_demandPerson wsX5_demandPerson) := goodIn_app (goodIn_of _ (by decide +kernel)) ggX5_climb_X5_demandPerson
set_option maxRecDepth 20000 in
theorem ggX5_climb_X5_demandRange : GoodIn wsX5_climb wsX5_demandRange := goodIn_ca (goodIn_r _ [22, 23, 24] (by decide +kernel) (by decide +kernel)) (goodIn_sub (fun _ h => List.mem_cons_of_mem _ (List.mem_append_right _ h)) (by decide +kernel))
set_option maxRecDepth 20000 in
theorem gX5_climb_X5_demandRange : GoodIn wsX5_climb (va_wsS RX5 41 yX5_demandRange wsX5_demandRange) := goodIn_app (goodIn_of _ (by decide +kernel)) ggX5_climb_X5_demandRange
set_option maxRecDepth 20000 in
theorem ggX5_climb_X0_save : GoodIn wsX5_climb wsX0_save := goodIn_r _ [29, 30, 31, 32, 33, 34, 35, 36, 37, 38, 39, 40, 41, 42, 43, 44, 45, 46, 47, 17, 48, 49, 50, 51, 52, 53, 54, 55, 19, 56, 57, 144, 145, 146, 131, 132, 133, 134, 135, 136, 137, 138, 139, 140, 141, 142, 143] (by decide +kernel) (by decide +kernel)
set_option maxRecDepth 20000 in
theorem gX5_climb_X0_save : GoodIn wsX5_climb (wsV RX5 45 RX0 yX0_save wsX0_save) := goodIn_app (goodIn_of _ (by decide +kernel)) ggX5_climb_X0_save
set_option maxRecDepth 20000 in
theorem ggX5_climb_X3_walk : GoodIn wsX5_climb wsX3_walk := goodIn_r _ [61, 62, 63, 35, 64, 44, 65, 66, 67, 17, 68, 57, 69, 15, 16, 18, 19, 70, 71, 72, 73, 74, 75, 76, 77, 78, 79, 80, 81, 82, 83, 84, 85, 86, 87, 88, 53, 50, 49, 89, 90, 91, 92, 93, 94, 95, 96, 51, 56, 97, 98, 99, 100, 101, 102, 103, 104, 54, 105, 106, 107, 108, 52, 109, 110, 111, 112, 113, 114, 115, 116, 117, 118, 119, 40, 120, 43, 121, 122, 123, 124, 125, 126, 131, 132, 133, 134, 135, 136, 137, 138, 139, 140, 141, 142, 143] (by decide +kernel) (by decide +kernel)
set_option maxRecDepth 20000 in
theorem gX5_climb_X3_walk : GoodIn wsX5_climb (wsV RX5 97 RX3 yX3_walk wsX3_walk) := goodIn_app (goodIn_of _ (by decide +kernel)) ggX5_climb_X3_walk
theorem dX5_climb_0 : decode cX5_climb 0 = .ok (.aload_n 0, 1) := by decide +kernel
theorem dX5_climb_1 : decode cX5_climb 1 = .ok (.iload_n 1, 1) := by decide +kernel
theorem dX5_climb_2 : decode cX5_climb 2 = .ok (.invokevirtual 37, 3) := by decide +kernel
theorem dX5_climb_5 : decode cX5_climb 5 = .ok (.astore 4, 2) := by decide +kernel
theorem dX5_climb_7 : decode cX5_climb 7 = .ok (.aload 4, 2) := by decide +kernel
theorem dX5_climb_9 : decode cX5_climb 9 = .ok (.iload_n 2, 1) := by decide +kernel
theorem dX5_climb_10 : decode cX5_climb 10 = .ok (.invokestatic 90, 3) := by decide +kernel
theorem dX5_climb_13 : decode cX5_climb 13 = .ok (.iload_n 3, 1) := by decide +kernel
theorem dX5_climb_14 : decode cX5_climb 14 = .ok (.iconst 0, 1) := by decide +kernel
theorem dX5_climb_15 : decode cX5_climb 15 = .ok (.bipush 10, 2) := by decide +kernel
theorem dX5_climb_17 : decode cX5_climb 17 = .ok (.invokestatic 41, 3) := by decide +kernel
theorem dX5_climb_20 : decode cX5_climb 20 = .ok (.aload_n 0, 1) := by decide +kernel
theorem dX5_climb_21 : decode cX5_climb 21 = .ok (.getfield 19, 3) := by decide +kernel
theorem dX5_climb_24 : decode cX5_climb 24 = .ok (.aload_n 0, 1) := by decide +kernel
theorem dX5_climb_25 : decode cX5_climb 25 = .ok (.getfield 10, 3) := by decide +kernel
theorem dX5_climb_28 : decode cX5_climb 28 = .ok (.invokevirtual 45, 3) := by decide +kernel
theorem dX5_climb_31 : decode cX5_climb 31 = .ok (.aload_n 0, 1) := by decide +kernel
theorem dX5_climb_32 : decode cX5_climb 32 = .ok (.getfield 10, 3) := by decide +kernel
theorem dX5_climb_35 : decode cX5_climb 35 = .ok (.aload 4, 2) := by decide +kernel
theorem dX5_climb_37 : decode cX5_climb 37 = .ok (.iload_n 2, 1) := by decide +kernel
theorem dX5_climb_38 : decode cX5_climb 38 = .ok (.iload_n 3, 1) := by decide +kernel
theorem dX5_climb_39 : decode cX5_climb 39 = .ok (.invokevirtual 97, 3) := by decide +kernel
theorem dX5_climb_42 : decode cX5_climb 42 = .ok (.ireturn, 1) := by decide +kernel
set_option maxRecDepth 20000 in
theorem ggX5_undo_X0_restoreTo : GoodIn wsX5_undo wsX0_restoreTo := goodIn_r _ [10, 11, 12, 13, 14, 15, 16, 17, 18, 19, 20, 21, 22, 23, 24, 25, 26, 27, 28, 29, 30, 31, 32, 33, 34, 35, 36, 41, 42, 43, 44, 45, 46, 47, 48, 49, 50, 51, 52, 53, 54, 55, 56] (by decide +kernel) (by decide +kernel)
set_option maxRecDepth 20000 in
theorem gX5_undo_X0_restoreTo : GoodIn wsX5_undo (wsV RX5 142 RX0 yX0_restoreTo wsX0_restoreTo) := goodIn_app (goodIn_of _ (by decide +kernel)) ggX5_undo_X0_restoreTo
theorem dX5_undo_0 : decode cX5_undo 0 = .ok (.aload_n 0, 1) := by decide +kernel
theorem dX5_undo_1 : decode cX5_undo 1 = .ok (.getfield 19, 3) := by decide +kernel
theorem dX5_undo_4 : decode cX5_undo 4 = .ok (.getfield 137, 3) := by decide +kernel
theorem dX5_undo_7 : decode cX5_undo 7 = .ok (.ifCond .ne 13, 3) := by decide +kernel
theorem dX5_undo_10 : decode cX5_undo 10 = .ok (.new 76, 3) := by decide +kernel
theorem dX5_undo_13 : decode cX5_undo 13 = .ok (.dup, 1) := by decide +kernel
theorem dX5_undo_14 : decode cX5_undo 14 = .ok (.ldc 140, 2) := by decide +kernel
theorem dX5_undo_16 : decode cX5_undo 16 = .ok (.invokespecial 80, 3) := by decide +kernel
theorem dX5_undo_19 : decode cX5_undo 19 = .ok (.athrow, 1) := by decide +kernel
theorem dX5_undo_20 : decode cX5_undo 20 = .ok (.aload_n 0, 1) := by decide +kernel
theorem dX5_undo_21 : decode cX5_undo 21 = .ok (.getfield 19, 3) := by decide +kernel
theorem dX5_undo_24 : decode cX5_undo 24 = .ok (.aload_n 0, 1) := by decide +kernel
theorem dX5_undo_25 : decode cX5_undo 25 = .ok (.getfield 10, 3) := by decide +kernel
theorem dX5_undo_28 : decode cX5_undo 28 = .ok (.invokevirtual 142, 3) := by decide +kernel
theorem dX5_undo_31 : decode cX5_undo 31 = .ok (.aload_n 0, 1) := by decide +kernel
theorem dX5_undo_32 : decode cX5_undo 32 = .ok (.getfield 19, 3) := by decide +kernel
theorem dX5_undo_35 : decode cX5_undo 35 = .ok (.getfield 137, 3) := by decide +kernel
theorem dX5_undo_38 : decode cX5_undo 38 = .ok (.ireturn, 1) := by decide +kernel
set_option maxRecDepth 20000 in
theorem ggX5_ladder_X5_rigOf : GoodIn wsX5_ladder wsX5_rigOf := goodIn_ca (goodIn_r _ [15, 16, 17, 18, 19, 85, 86, 87, 88, 89, 90, 91] (by decide +kernel) (by decide +kernel)) (goodIn_sub (fun _ h => List.mem_cons_of_mem _ (List.mem_append_right _ h)) (by decide +kernel))
set_option maxRecDepth 20000 in
theorem gX5_ladder_X5_rigOf : GoodIn wsX5_ladder (wsV RX5 37 RX5 yX5_rigOf wsX5_rigOf) := goodIn_app (goodIn_of _ (by decide +kernel)) ggX5_ladder_X5_rigOf
set_option maxRecDepth 20000 in
theorem ggX5_ladder_X2_load : GoodIn wsX5_ladder wsX2_load := goodIn_r _ [24, 25, 26, 75, 76, 77, 78, 79, 80, 81, 82, 83, 84] (by decide +kernel) (by decide +kernel)
set_option maxRecDepth 20000 in
theorem gX5_ladder_X2_load : GoodIn wsX5_ladder (wsV RX5 145 RX2 yX2_load wsX2_load) := goodIn_app (goodIn_of _ (by decide +kernel)) ggX5_ladder_X2_load
set_option maxRecDepth 20000 in
theorem ggX5_ladder_X2_moment : GoodIn wsX5_ladder wsX2_moment := goodIn_r _ [30, 25, 31, 26, 32, 75, 76, 77, 78, 79, 80, 81, 82, 83, 84] (by decide +kernel) (by decide +kernel)
set_option maxRecDepth 20000 in
theorem gX5_ladder_X2_moment : GoodIn wsX5_ladder (wsV RX5 148 RX2 yX2_moment wsX2_moment) := goodIn_app (goodIn_of _ (by decide +kernel)) ggX5_ladder_X2_moment
set_option maxRecDepth 20000 in
theorem ggX5_ladder_X2_stands : GoodIn wsX5_ladder wsX2_stands := goodIn_r _ [36, 37, 38, 39, 23, 40, 41, 42, 43, 44, 45, 46, 47, 48, 49, 50, 32, 51, 52, 53, 54, 55, 28, 29, 30, 25, 31, 26, 56, 57, 58, 59, 60, 61, 62, 63, 64, 65, 66, 67, 68, 69, 70, 21, 22, 24, 71, 72, 73, 74, 75, 76, 77, 78, 79, 80, 81, 82, 83, 84] (by decide +kernel) (by decide +kernel)
set_option maxRecDepth 20000 in
theorem gX5_ladder_X2_stands : GoodIn wsX5_ladder (wsV RX5 154 RX2 yX2_stands wsX2_stands) := goodIn_app (goodIn_of _ (by decide +kernel)) ggX5_ladder_X2_stands
theorem dX5_ladder_0 : decode cX5_ladder 0 = .ok (.aload_n 0, 1) := by decide +kernel
theorem dX5_ladder_1 : decode cX5_ladder 1 = .ok (.iload_n 1, 1) := by decide +kernel
theorem dX5_ladder_2 : decode cX5_ladder 2 = .ok (.invokevirtual 37, 3) := by decide +kernel
theorem dX5_ladder_5 : decode cX5_ladder 5 = .ok (.astore_n 3, 1) := by decide +kernel
theorem dX5_ladder_6 : decode cX5_ladder 6 = .ok (.iload_n 2, 1) := by decide +kernel
theorem dX5_ladder_7 : decode cX5_ladder 7 = .ok (.tableswitch 120 0 10 #[57, 62, 67, 72, 77, 82, 87, 92, 97, 102, 107], 57) := by decide +kernel
theorem dX5_ladder_64 : decode cX5_ladder 64 = .ok (.aload_n 3, 1) := by decide +kernel
theorem dX5_ladder_65 : decode cX5_ladder 65 = .ok (.getfield 49, 3) := by decide +kernel
theorem dX5_ladder_68 : decode cX5_ladder 68 = .ok (.ireturn, 1) := by decide +kernel
theorem dX5_ladder_69 : decode cX5_ladder 69 = .ok (.aload_n 3, 1) := by decide +kernel
theorem dX5_ladder_70 : decode cX5_ladder 70 = .ok (.getfield 53, 3) := by decide +kernel
theorem dX5_ladder_73 : decode cX5_ladder 73 = .ok (.ireturn, 1) := by decide +kernel
theorem dX5_ladder_74 : decode cX5_ladder 74 = .ok (.aload_n 3, 1) := by decide +kernel
theorem dX5_ladder_75 : decode cX5_ladder 75 = .ok (.getfield 56, 3) := by decide +kernel
theorem dX5_ladder_78 : decode cX5_ladder 78 = .ok (.ireturn, 1) := by decide +kernel
theorem dX5_ladder_79 : decode cX5_ladder 79 = .ok (.aload_n 3, 1) := by decide +kernel
theorem dX5_ladder_80 : decode cX5_ladder 80 = .ok (.getfield 63, 3) := by decide +kernel
theorem dX5_ladder_83 : decode cX5_ladder 83 = .ok (.ireturn, 1) := by decide +kernel
theorem dX5_ladder_84 : decode cX5_ladder 84 = .ok (.aload_n 3, 1) := by decide +kernel
theorem dX5_ladder_85 : decode cX5_ladder 85 = .ok (.getfield 66, 3) := by decide +kernel
theorem dX5_ladder_88 : decode cX5_ladder 88 = .ok (.ireturn, 1) := by decide +kernel
theorem dX5_ladder_89 : decode cX5_ladder 89 = .ok (.aload_n 3, 1) := by decide +kernel
theorem dX5_ladder_90 : decode cX5_ladder 90 = .ok (.getfield 69, 3) := by decide +kernel
theorem dX5_ladder_93 : decode cX5_ladder 93 = .ok (.ireturn, 1) := by decide +kernel
theorem dX5_ladder_94 : decode cX5_ladder 94 = .ok (.aload_n 3, 1) := by decide +kernel
theorem dX5_ladder_95 : decode cX5_ladder 95 = .ok (.getfield 87, 3) := by decide +kernel
theorem dX5_ladder_98 : decode cX5_ladder 98 = .ok (.ireturn, 1) := by decide +kernel
theorem dX5_ladder_99 : decode cX5_ladder 99 = .ok (.aload_n 3, 1) := by decide +kernel
theorem dX5_ladder_100 : decode cX5_ladder 100 = .ok (.invokevirtual 145, 3) := by decide +kernel
theorem dX5_ladder_103 : decode cX5_ladder 103 = .ok (.ireturn, 1) := by decide +kernel
theorem dX5_ladder_104 : decode cX5_ladder 104 = .ok (.aload_n 3, 1) := by decide +kernel
theorem dX5_ladder_105 : decode cX5_ladder 105 = .ok (.invokevirtual 148, 3) := by decide +kernel
theorem dX5_ladder_108 : decode cX5_ladder 108 = .ok (.ireturn, 1) := by decide +kernel
theorem dX5_ladder_109 : decode cX5_ladder 109 = .ok (.aload_n 3, 1) := by decide +kernel
theorem dX5_ladder_110 : decode cX5_ladder 110 = .ok (.getfield 151, 3) := by decide +kernel
theorem dX5_ladder_113 : decode cX5_ladder 113 = .ok (.ireturn, 1) := by decide +kernel
theorem dX5_ladder_114 : decode cX5_ladder 114 = .ok (.aload_n 3, 1) := by decide +kernel
theorem dX5_ladder_115 : decode cX5_ladder 115 = .ok (.invokevirtual 154, 3) := by decide +kernel
theorem dX5_ladder_118 : decode cX5_ladder 118 = .ok (.ifCond .eq 7, 3) := by decide +kernel
theorem dX5_ladder_121 : decode cX5_ladder 121 = .ok (.iconst 1, 1) := by decide +kernel
theorem dX5_ladder_122 : decode cX5_ladder 122 = .ok (.goto 4, 3) := by decide +kernel
theorem dX5_ladder_125 : decode cX5_ladder 125 = .ok (.iconst 0, 1) := by decide +kernel
theorem dX5_ladder_126 : decode cX5_ladder 126 = .ok (.ireturn, 1) := by decide +kernel
theorem dX5_ladder_127 : decode cX5_ladder 127 = .ok (.new 118, 3) := by decide +kernel
theorem dX5_ladder_130 : decode cX5_ladder 130 = .ok (.dup, 1) := by decide +kernel
theorem dX5_ladder_131 : decode cX5_ladder 131 = .ok (.ldc 157, 2) := by decide +kernel
theorem dX5_ladder_133 : decode cX5_ladder 133 = .ok (.invokespecial 122, 3) := by decide +kernel
theorem dX5_ladder_136 : decode cX5_ladder 136 = .ok (.athrow, 1) := by decide +kernel
set_option maxRecDepth 20000 in
theorem ggX5_person_X5_rigOf : GoodIn wsX5_person wsX5_rigOf := goodIn_ca (goodIn_r _ [7, 8, 9, 10, 11, 32, 33, 34, 35, 36, 37, 38] (by decide +kernel) (by decide +kernel)) (goodIn_sub (fun _ h => List.mem_cons_of_mem _ (List.mem_append_right _ h)) (by decide +kernel))
set_option maxRecDepth 20000 in
theorem gX5_person_X5_rigOf : GoodIn wsX5_person (wsV RX5 37 RX5 yX5_rigOf wsX5_rigOf) := goodIn_app (goodIn_of _ (by decide +kernel)) ggX5_person_X5_rigOf
set_option maxRecDepth 20000 in
theorem ggX5_person_X5_demandPerson : GoodIn wsX5_person wsX5_demandPerson := goodIn_ca (goodIn_r _ [14, 8, 9, 15, 16, 17, 18, 19, 20, 39, 40, 41, 42, 43, 44, 45, 46, 47, 48] (by decide +kernel) (by decide +kernel)) (goodIn_sub (fun _ h => List.mem_cons_of_mem _ (List.mem_append_right _ h)) (by decide +kernel))
set_option maxRecDepth 20000 in
theorem gX5_person_X5_demandPerson : GoodIn wsX5_person (va_wsS RX5 90 yX5_demandPerson wsX5_demandPerson) := goodIn_app (goodIn_of _ (by decide +kernel)) ggX5_person_X5_demandPerson
set_option maxRecDepth 20000 in
theorem ggX5_person_X2_weightOf : GoodIn wsX5_person wsX2_weightOf := goodIn_r _ [24, 25, 26, 16, 17, 18, 19, 20, 39, 40, 41, 42, 43, 44, 45, 46, 47, 48] (by decide +kernel) (by decide +kernel)
set_option maxRecDepth 20000 in
theorem gX5_person_X2_weightOf : GoodIn wsX5_person (wsV RX5 159 RX2 yX2_weightOf wsX2_weightOf) := goodIn_app (goodIn_of _ (by decide +kernel)) ggX5_person_X2_weightOf
set_option maxRecDepth 20000 in
theorem ggX5_person_X2_stepOf : GoodIn wsX5_person wsX2_stepOf := goodIn_r _ [30, 31, 26, 16, 17, 18, 19, 20, 39, 40, 41, 42, 43, 44, 45, 46, 47, 48] (by decide +kernel) (by decide +kernel)
set_option maxRecDepth 20000 in
theorem gX5_person_X2_stepOf : GoodIn wsX5_person (wsV RX5 163 RX2 yX2_stepOf wsX2_stepOf) := goodIn_app (goodIn_of _ (by decide +kernel)) ggX5_person_X2_stepOf
theorem dX5_person_0 : decode cX5_person 0 = .ok (.aload_n 0, 1) := by decide +kernel
theorem dX5_person_1 : decode cX5_person 1 = .ok (.iload_n 1, 1) := by decide +kernel
theorem dX5_person_2 : decode cX5_person 2 = .ok (.invokevirtual 37, 3) := by decide +kernel
theorem dX5_person_5 : decode cX5_person 5 = .ok (.astore 4, 2) := by decide +kernel
theorem dX5_person_7 : decode cX5_person 7 = .ok (.aload 4, 2) := by decide +kernel
theorem dX5_person_9 : decode cX5_person 9 = .ok (.iload_n 2, 1) := by decide +kernel
theorem dX5_person_10 : decode cX5_person 10 = .ok (.invokestatic 90, 3) := by decide +kernel
theorem dX5_person_13 : decode cX5_person 13 = .ok (.iload_n 3, 1) := by decide +kernel
theorem dX5_person_14 : decode cX5_person 14 = .ok (.lookupswitch 40 #[(0, 26), (1, 33)], 26) := by decide +kernel
theorem dX5_person_40 : decode cX5_person 40 = .ok (.aload 4, 2) := by decide +kernel
theorem dX5_person_42 : decode cX5_person 42 = .ok (.iload_n 2, 1) := by decide +kernel
theorem dX5_person_43 : decode cX5_person 43 = .ok (.invokevirtual 159, 3) := by decide +kernel
theorem dX5_person_46 : decode cX5_person 46 = .ok (.ireturn, 1) := by decide +kernel
theorem dX5_person_47 : decode cX5_person 47 = .ok (.aload 4, 2) := by decide +kernel
theorem dX5_person_49 : decode cX5_person 49 = .ok (.iload_n 2, 1) := by decide +kernel
theorem dX5_person_50 : decode cX5_person 50 = .ok (.invokevirtual 163, 3) := by decide +kernel
theorem dX5_person_53 : decode cX5_person 53 = .ok (.ireturn, 1) := by decide +kernel
theorem dX5_person_54 : decode cX5_person 54 = .ok (.new 118, 3) := by decide +kernel
theorem dX5_person_57 : decode cX5_person 57 = .ok (.dup, 1) := by decide +kernel
theorem dX5_person_58 : decode cX5_person 58 = .ok (.ldc 166, 2) := by decide +kernel
theorem dX5_person_60 : decode cX5_person 60 = .ok (.invokespecial 122, 3) := by decide +kernel
theorem dX5_person_63 : decode cX5_person 63 = .ok (.athrow, 1) := by decide +kernel
set_option maxRecDepth 20000 in
theorem ggX5_force_X5_rigOf : GoodIn wsX5_force wsX5_rigOf := goodIn_ca (goodIn_r _ [5, 6, 7, 8, 9, 86, 87, 88, 89, 90, 91, 92] (by decide +kernel) (by decide +kernel)) (goodIn_sub (fun _ h => List.mem_cons_of_mem _ (List.mem_append_left _ (List.mem_append_right _ h))) (by decide +kernel))
set_option maxRecDepth 20000 in
theorem gX5_force_X5_rigOf : GoodIn wsX5_force (wsV RX5 37 RX5 yX5_rigOf wsX5_rigOf) := goodIn_app (goodIn_of _ (by decide +kernel)) ggX5_force_X5_rigOf
set_option maxRecDepth 20000 in
theorem ggX5_force_X5_demandRange : GoodIn wsX5_force wsX5_demandRange := goodIn_ca (goodIn_r _ [12, 13, 14] (by decide +kernel) (by decide +kernel)) (goodIn_sub (fun _ h => List.mem_cons_of_mem _ (List.mem_append_right _ h)) (by decide +kernel))
set_option maxRecDepth 20000 in
theorem gX5_force_X5_demandRange : GoodIn wsX5_force (va_wsS RX5 41 yX5_demandRange wsX5_demandRange) := goodIn_app (goodIn_of _ (by decide +kernel)) ggX5_force_X5_demandRange
set_option maxRecDepth 20000 in
theorem ggX5_force_X2_forces : GoodIn wsX5_force wsX2_forces := goodIn_r _ [19, 20, 21, 22, 23, 24, 25, 26, 18, 27, 28, 29, 30, 31, 32, 33, 34, 35, 36, 37, 38, 39, 40, 41, 42, 43, 44, 45, 46, 47, 48, 49, 50, 51, 52, 53, 54, 55, 56, 57, 58, 59, 60, 61, 62, 63, 64, 65, 66, 67, 93, 94, 95, 96, 97, 98, 99, 100, 101, 102] (by decide +kernel) (by decide +kernel)
set_option maxRecDepth 20000 in
theorem gX5_force_X2_forces : GoodIn wsX5_force (wsV RX5 168 RX2 yX2_forces wsX2_forces) := goodIn_app (goodIn_of _ (by decide +kernel)) ggX5_force_X2_forces
set_option maxRecDepth 20000 in
theorem ggX5_force_X2_stands : GoodIn wsX5_force wsX2_stands := goodIn_r _ [71, 46, 47, 48, 18, 49, 20, 21, 22, 23, 50, 51, 52, 53, 34, 28, 29, 30, 31, 32, 33, 35, 36, 37, 38, 39, 40, 41, 42, 43, 44, 45, 54, 55, 56, 57, 58, 59, 60, 61, 62, 63, 64, 65, 66, 67, 24, 25, 26, 27, 93, 94, 95, 96, 97, 98, 99, 100, 101, 102] (by decide +kernel) (by decide +kernel)
set_option maxRecDepth 20000 in
theorem gX5_force_X2_stands : GoodIn wsX5_force (wsV RX5 154 RX2 yX2_stands wsX2_stands) := goodIn_app (goodIn_of _ (by decide +kernel)) ggX5_force_X2_stands
set_option maxRecDepth 20000 in
theorem ggX5_force_X2_leastForce : GoodIn wsX5_force wsX2_leastForce := goodIn_r _ [49, 20, 21, 22, 23, 50, 51, 52, 18, 53, 34, 28, 29, 30, 31, 32, 33, 35, 36, 37, 38, 39, 40, 41, 42, 43, 44, 45, 54, 55, 56, 57, 58, 59, 60, 61, 62, 63, 64, 65, 66, 67, 93, 94, 95, 96, 97, 98, 99, 100, 101, 102] (by decide +kernel) (by decide +kernel)
set_option maxRecDepth 20000 in
theorem gX5_force_X2_leastForce : GoodIn wsX5_force (wsV RX5 171 RX2 yX2_leastForce wsX2_leastForce) := goodIn_app (goodIn_of _ (by decide +kernel)) ggX5_force_X2_leastForce
set_option maxRecDepth 20000 in
theorem ggX5_force_X2_greatestForce : GoodIn wsX5_force wsX2_greatestForce := goodIn_r _ [27, 28, 29, 30, 31, 32, 18, 33, 34, 35, 36, 37, 38, 39, 40, 41, 42, 43, 44, 45, 93, 94, 95, 96, 97, 98, 99, 100, 101, 102] (by decide +kernel) (by decide +kernel)
end
section
set_option maxRecDepth 20000 in
theorem gX5_force_X2_greatestForce : GoodIn wsX5_force (wsV RX5 174 RX2 yX2_greatestForce wsX2_greatestForce) := goodIn_app (goodIn_of _ (by decide +kernel)) ggX5_force_X2_greatestForce
set_option maxRecDepth 20000 in
theorem ggX5_force_X2_nearestForce : GoodIn wsX5_force wsX2_nearestForce := goodIn_r _ [77, 78, 79, 22, 80, 20, 21, 23, 46, 47, 48, 18, 49, 50, 51, 52, 53, 34, 28, 29, 30, 31, 32, 33, 35, 36, 37, 38, 39, 40, 41, 42, 43, 44, 45, 54, 55, 56, 57, 58, 59, 60, 61, 62, 63, 64, 65, 66, 67, 24, 25, 26, 27, 93, 94, 95, 96, 97, 98, 99, 100, 101, 102] (by decide +kernel) (by decide +kernel)
set_option maxRecDepth 20000 in
theorem gX5_force_X2_nearestForce : GoodIn wsX5_force (wsV RX5 177 RX2 yX2_nearestForce wsX2_nearestForce) := goodIn_app (goodIn_of _ (by decide +kernel)) ggX5_force_X2_nearestForce
set_option maxRecDepth 20000 in
theorem ggX5_force_X2_push : GoodIn wsX5_force wsX2_push := goodIn_r _ [84, 29, 35, 36, 37, 18, 38, 39, 40, 41, 93, 94, 95, 96, 97, 98, 99, 100, 101, 102] (by decide +kernel) (by decide +kernel)
set_option maxRecDepth 20000 in
theorem gX5_force_X2_push : GoodIn wsX5_force (wsV RX5 180 RX2 yX2_push wsX2_push) := goodIn_app (goodIn_of _ (by decide +kernel)) ggX5_force_X2_push
set_option maxRecDepth 20000 in
theorem ggX5_force_X2_load : GoodIn wsX5_force wsX2_load := goodIn_r _ [67, 39, 41, 93, 94, 95, 96, 97, 98, 99, 100, 101, 102] (by decide +kernel) (by decide +kernel)
set_option maxRecDepth 20000 in
theorem gX5_force_X2_load : GoodIn wsX5_force (wsV RX5 145 RX2 yX2_load wsX2_load) := goodIn_app (goodIn_of _ (by decide +kernel)) ggX5_force_X2_load
theorem dX5_force_0 : decode cX5_force 0 = .ok (.aload_n 0, 1) := by decide +kernel
theorem dX5_force_1 : decode cX5_force 1 = .ok (.iload_n 1, 1) := by decide +kernel
theorem dX5_force_2 : decode cX5_force 2 = .ok (.invokevirtual 37, 3) := by decide +kernel
theorem dX5_force_5 : decode cX5_force 5 = .ok (.astore_n 3, 1) := by decide +kernel
theorem dX5_force_6 : decode cX5_force 6 = .ok (.iload_n 2, 1) := by decide +kernel
theorem dX5_force_7 : decode cX5_force 7 = .ok (.iconst 0, 1) := by decide +kernel
theorem dX5_force_8 : decode cX5_force 8 = .ok (.iconst 5, 1) := by decide +kernel
theorem dX5_force_9 : decode cX5_force 9 = .ok (.invokestatic 41, 3) := by decide +kernel
theorem dX5_force_12 : decode cX5_force 12 = .ok (.iload_n 2, 1) := by decide +kernel
theorem dX5_force_13 : decode cX5_force 13 = .ok (.iconst 2, 1) := by decide +kernel
theorem dX5_force_14 : decode cX5_force 14 = .ok (.if_icmp .ne 8, 3) := by decide +kernel
theorem dX5_force_17 : decode cX5_force 17 = .ok (.aload_n 3, 1) := by decide +kernel
theorem dX5_force_18 : decode cX5_force 18 = .ok (.invokevirtual 168, 3) := by decide +kernel
theorem dX5_force_21 : decode cX5_force 21 = .ok (.ireturn, 1) := by decide +kernel
theorem dX5_force_22 : decode cX5_force 22 = .ok (.aload_n 3, 1) := by decide +kernel
theorem dX5_force_23 : decode cX5_force 23 = .ok (.invokevirtual 154, 3) := by decide +kernel
theorem dX5_force_26 : decode cX5_force 26 = .ok (.ifCond .ne 5, 3) := by decide +kernel
theorem dX5_force_29 : decode cX5_force 29 = .ok (.iconst (-1), 1) := by decide +kernel
theorem dX5_force_30 : decode cX5_force 30 = .ok (.ireturn, 1) := by decide +kernel
theorem dX5_force_31 : decode cX5_force 31 = .ok (.iload_n 2, 1) := by decide +kernel
theorem dX5_force_32 : decode cX5_force 32 = .ok (.tableswitch 72 0 4 #[36, 45, 72, 54, 63], 36) := by decide +kernel
theorem dX5_force_68 : decode cX5_force 68 = .ok (.aload_n 3, 1) := by decide +kernel
theorem dX5_force_69 : decode cX5_force 69 = .ok (.invokevirtual 171, 3) := by decide +kernel
theorem dX5_force_72 : decode cX5_force 72 = .ok (.sipush 1000, 3) := by decide +kernel
theorem dX5_force_75 : decode cX5_force 75 = .ok (.iadd, 1) := by decide +kernel
theorem dX5_force_76 : decode cX5_force 76 = .ok (.ireturn, 1) := by decide +kernel
theorem dX5_force_77 : decode cX5_force 77 = .ok (.aload_n 3, 1) := by decide +kernel
theorem dX5_force_78 : decode cX5_force 78 = .ok (.invokevirtual 174, 3) := by decide +kernel
theorem dX5_force_81 : decode cX5_force 81 = .ok (.sipush 1000, 3) := by decide +kernel
theorem dX5_force_84 : decode cX5_force 84 = .ok (.iadd, 1) := by decide +kernel
theorem dX5_force_85 : decode cX5_force 85 = .ok (.ireturn, 1) := by decide +kernel
theorem dX5_force_86 : decode cX5_force 86 = .ok (.aload_n 3, 1) := by decide +kernel
theorem dX5_force_87 : decode cX5_force 87 = .ok (.invokevirtual 177, 3) := by decide +kernel
theorem dX5_force_90 : decode cX5_force 90 = .ok (.sipush 1000, 3) := by decide +kernel
theorem dX5_force_93 : decode cX5_force 93 = .ok (.iadd, 1) := by decide +kernel
theorem dX5_force_94 : decode cX5_force 94 = .ok (.ireturn, 1) := by decide +kernel
theorem dX5_force_95 : decode cX5_force 95 = .ok (.aload_n 3, 1) := by decide +kernel
theorem dX5_force_96 : decode cX5_force 96 = .ok (.aload_n 3, 1) := by decide +kernel
theorem dX5_force_97 : decode cX5_force 97 = .ok (.invokevirtual 177, 3) := by decide +kernel
theorem dX5_force_100 : decode cX5_force 100 = .ok (.invokevirtual 180, 3) := by decide +kernel
theorem dX5_force_103 : decode cX5_force 103 = .ok (.ireturn, 1) := by decide +kernel
theorem dX5_force_104 : decode cX5_force 104 = .ok (.aload_n 3, 1) := by decide +kernel
theorem dX5_force_105 : decode cX5_force 105 = .ok (.invokevirtual 145, 3) := by decide +kernel
theorem dX5_force_108 : decode cX5_force 108 = .ok (.aload_n 3, 1) := by decide +kernel
theorem dX5_force_109 : decode cX5_force 109 = .ok (.invokevirtual 177, 3) := by decide +kernel
theorem dX5_force_112 : decode cX5_force 112 = .ok (.isub, 1) := by decide +kernel
theorem dX5_force_113 : decode cX5_force 113 = .ok (.ireturn, 1) := by decide +kernel
set_option maxRecDepth 20000 in
theorem ggX5_held_X5_rigOf : GoodIn wsX5_held wsX5_rigOf := goodIn_ca (goodIn_r _ [5, 6, 7, 8, 9, 52, 53, 54, 55, 56, 57, 58] (by decide +kernel) (by decide +kernel)) (goodIn_sub (fun _ h => List.mem_cons_of_mem _ (List.mem_append_left _ (List.mem_append_right _ h))) (by decide +kernel))
set_option maxRecDepth 20000 in
theorem gX5_held_X5_rigOf : GoodIn wsX5_held (wsV RX5 37 RX5 yX5_rigOf wsX5_rigOf) := goodIn_app (goodIn_of _ (by decide +kernel)) ggX5_held_X5_rigOf
set_option maxRecDepth 20000 in
theorem ggX5_held_X5_demandRange : GoodIn wsX5_held wsX5_demandRange := goodIn_ca (goodIn_r _ [12, 13, 14] (by decide +kernel) (by decide +kernel)) (goodIn_sub (fun _ h => List.mem_cons_of_mem _ (List.mem_append_right _ h)) (by decide +kernel))
set_option maxRecDepth 20000 in
theorem gX5_held_X5_demandRange : GoodIn wsX5_held (va_wsS RX5 41 yX5_demandRange wsX5_demandRange) := goodIn_app (goodIn_of _ (by decide +kernel)) ggX5_held_X5_demandRange
set_option maxRecDepth 20000 in
theorem ggX5_held_X2_whatGivesWay : GoodIn wsX5_held wsX2_whatGivesWay := goodIn_r _ [19, 20, 21, 22, 23, 24, 25, 26, 27, 28, 29, 18, 30, 31, 32, 33, 34, 35, 36, 37, 38, 39, 40, 41, 42, 43, 44, 45, 46, 47, 48, 49, 50, 51, 59, 60, 61, 62, 63, 64, 65, 66, 67, 68] (by decide +kernel) (by decide +kernel)
set_option maxRecDepth 20000 in
theorem gX5_held_X2_whatGivesWay : GoodIn wsX5_held (wsV RX5 183 RX2 yX2_whatGivesWay wsX2_whatGivesWay) := goodIn_app (goodIn_of _ (by decide +kernel)) ggX5_held_X2_whatGivesWay
theorem dX5_held_0 : decode cX5_held 0 = .ok (.aload_n 0, 1) := by decide +kernel
theorem dX5_held_1 : decode cX5_held 1 = .ok (.iload_n 1, 1) := by decide +kernel
theorem dX5_held_2 : decode cX5_held 2 = .ok (.invokevirtual 37, 3) := by decide +kernel
theorem dX5_held_5 : decode cX5_held 5 = .ok (.astore_n 3, 1) := by decide +kernel
theorem dX5_held_6 : decode cX5_held 6 = .ok (.iload_n 2, 1) := by decide +kernel
theorem dX5_held_7 : decode cX5_held 7 = .ok (.sipush (-1000), 3) := by decide +kernel
theorem dX5_held_10 : decode cX5_held 10 = .ok (.sipush 1000, 3) := by decide +kernel
theorem dX5_held_13 : decode cX5_held 13 = .ok (.invokestatic 41, 3) := by decide +kernel
theorem dX5_held_16 : decode cX5_held 16 = .ok (.aload_n 3, 1) := by decide +kernel
theorem dX5_held_17 : decode cX5_held 17 = .ok (.iload_n 2, 1) := by decide +kernel
theorem dX5_held_18 : decode cX5_held 18 = .ok (.invokevirtual 183, 3) := by decide +kernel
theorem dX5_held_21 : decode cX5_held 21 = .ok (.ireturn, 1) := by decide +kernel
set_option maxRecDepth 20000 in
theorem ggX5_count_X3_standing : GoodIn wsX5_count wsX3_standing := goodIn_r _ [12, 13, 14, 15, 16, 17, 18, 19, 20, 21, 22, 23, 24, 25, 26, 27, 28, 29, 30, 31, 32, 33, 34, 35, 36, 37, 38, 39, 40, 41, 42, 43, 44, 45, 46, 47, 48, 49, 50, 51, 52, 53, 54, 55, 56, 57, 58, 59, 60, 61, 62, 63, 64, 65, 66, 81, 82, 83, 87, 88, 89, 90, 91, 92, 93, 94, 95, 96] (by decide +kernel) (by decide +kernel)
set_option maxRecDepth 20000 in
theorem gX5_count_X3_standing : GoodIn wsX5_count (wsV RX5 186 RX3 yX3_standing wsX3_standing) := goodIn_app (goodIn_of _ (by decide +kernel)) ggX5_count_X3_standing
set_option maxRecDepth 20000 in
theorem ggX5_count_X3_people : GoodIn wsX5_count wsX3_people := goodIn_r _ [70, 13, 71, 81, 82, 83, 87, 88, 89, 90, 91, 92, 93, 94, 95, 96] (by decide +kernel) (by decide +kernel)
set_option maxRecDepth 20000 in
theorem gX5_count_X3_people : GoodIn wsX5_count (wsV RX5 189 RX3 yX3_people wsX3_people) := goodIn_app (goodIn_of _ (by decide +kernel)) ggX5_count_X3_people
set_option maxRecDepth 20000 in
theorem ggX5_count_X3_falls : GoodIn wsX5_count wsX3_falls := goodIn_r _ [75, 13, 76, 81, 82, 83, 87, 88, 89, 90, 91, 92, 93, 94, 95, 96] (by decide +kernel) (by decide +kernel)
set_option maxRecDepth 20000 in
theorem gX5_count_X3_falls : GoodIn wsX5_count (wsV RX5 191 RX3 yX3_falls wsX3_falls) := goodIn_app (goodIn_of _ (by decide +kernel)) ggX5_count_X3_falls
theorem dX5_count_0 : decode cX5_count 0 = .ok (.iload_n 1, 1) := by decide +kernel
theorem dX5_count_1 : decode cX5_count 1 = .ok (.tableswitch 87 0 5 #[39, 47, 55, 63, 71, 79], 39) := by decide +kernel
theorem dX5_count_40 : decode cX5_count 40 = .ok (.aload_n 0, 1) := by decide +kernel
theorem dX5_count_41 : decode cX5_count 41 = .ok (.getfield 10, 3) := by decide +kernel
theorem dX5_count_44 : decode cX5_count 44 = .ok (.invokevirtual 186, 3) := by decide +kernel
theorem dX5_count_47 : decode cX5_count 47 = .ok (.ireturn, 1) := by decide +kernel
theorem dX5_count_48 : decode cX5_count 48 = .ok (.aload_n 0, 1) := by decide +kernel
theorem dX5_count_49 : decode cX5_count 49 = .ok (.getfield 10, 3) := by decide +kernel
theorem dX5_count_52 : decode cX5_count 52 = .ok (.invokevirtual 189, 3) := by decide +kernel
theorem dX5_count_55 : decode cX5_count 55 = .ok (.ireturn, 1) := by decide +kernel
theorem dX5_count_56 : decode cX5_count 56 = .ok (.aload_n 0, 1) := by decide +kernel
theorem dX5_count_57 : decode cX5_count 57 = .ok (.getfield 10, 3) := by decide +kernel
theorem dX5_count_60 : decode cX5_count 60 = .ok (.invokevirtual 191, 3) := by decide +kernel
theorem dX5_count_63 : decode cX5_count 63 = .ok (.ireturn, 1) := by decide +kernel
theorem dX5_count_64 : decode cX5_count 64 = .ok (.aload_n 0, 1) := by decide +kernel
theorem dX5_count_65 : decode cX5_count 65 = .ok (.getfield 10, 3) := by decide +kernel
theorem dX5_count_68 : decode cX5_count 68 = .ok (.getfield 193, 3) := by decide +kernel
theorem dX5_count_71 : decode cX5_count 71 = .ok (.ireturn, 1) := by decide +kernel
theorem dX5_count_72 : decode cX5_count 72 = .ok (.aload_n 0, 1) := by decide +kernel
theorem dX5_count_73 : decode cX5_count 73 = .ok (.getfield 10, 3) := by decide +kernel
theorem dX5_count_76 : decode cX5_count 76 = .ok (.getfield 196, 3) := by decide +kernel
theorem dX5_count_79 : decode cX5_count 79 = .ok (.ireturn, 1) := by decide +kernel
theorem dX5_count_80 : decode cX5_count 80 = .ok (.aload_n 0, 1) := by decide +kernel
theorem dX5_count_81 : decode cX5_count 81 = .ok (.getfield 19, 3) := by decide +kernel
theorem dX5_count_84 : decode cX5_count 84 = .ok (.getfield 137, 3) := by decide +kernel
theorem dX5_count_87 : decode cX5_count 87 = .ok (.ireturn, 1) := by decide +kernel
theorem dX5_count_88 : decode cX5_count 88 = .ok (.new 118, 3) := by decide +kernel
theorem dX5_count_91 : decode cX5_count 91 = .ok (.dup, 1) := by decide +kernel
theorem dX5_count_92 : decode cX5_count 92 = .ok (.ldc 199, 2) := by decide +kernel
theorem dX5_count_94 : decode cX5_count 94 = .ok (.invokespecial 122, 3) := by decide +kernel
theorem dX5_count_97 : decode cX5_count 97 = .ok (.athrow, 1) := by decide +kernel
set_option maxRecDepth 20000 in
theorem ggX5_highest_X5_rigOf : GoodIn wsX5_highest wsX5_rigOf := goodIn_ca (goodIn_r _ [6, 7, 8, 9, 10, 86, 87, 88, 89, 90, 91, 92] (by decide +kernel) (by decide +kernel)) (goodIn_sub (fun _ h => List.mem_cons_of_mem _ (List.mem_append_right _ h)) (by decide +kernel))
set_option maxRecDepth 20000 in
theorem gX5_highest_X5_rigOf : GoodIn wsX5_highest (wsV RX5 37 RX5 yX5_rigOf wsX5_rigOf) := goodIn_app (goodIn_of _ (by decide +kernel)) ggX5_highest_X5_rigOf
set_option maxRecDepth 20000 in
theorem ggX5_highest_X5_demandPerson : GoodIn wsX5_highest wsX5_demandPerson := goodIn_ca (goodIn_r _ [13, 7, 8, 14, 15, 16, 17, 18, 19, 93, 94, 95, 96, 97, 98, 99, 100, 101, 102] (by decide +kernel) (by decide +kernel)) (goodIn_sub (fun _ h => List.mem_cons_of_mem _ (List.mem_append_right _ h)) (by decide +kernel))
set_option maxRecDepth 20000 in
theorem gX5_highest_X5_demandPerson : GoodIn wsX5_highest (va_wsS RX5 90 yX5_demandPerson wsX5_demandPerson) := goodIn_app (goodIn_of _ (by decide +kernel)) ggX5_highest_X5_demandPerson
set_option maxRecDepth 20000 in
theorem ggX5_highest_X2_copyFrom : GoodIn wsX5_highest wsX2_copyFrom := goodIn_r _ [23, 24, 25, 26, 27, 28, 29, 30, 19, 31, 32, 93, 94, 95, 96, 97, 98, 99, 100, 101, 102] (by decide +kernel) (by decide +kernel)
set_option maxRecDepth 20000 in
theorem gX5_highest_X2_copyFrom : GoodIn wsX5_highest (wsV RX5 201 RX2 yX2_copyFrom wsX2_copyFrom) := goodIn_app (goodIn_of _ (by decide +kernel)) ggX5_highest_X2_copyFrom
set_option maxRecDepth 20000 in
theorem ggX5_highest_X2_stepOf : GoodIn wsX5_highest wsX2_stepOf := goodIn_r _ [36, 32, 37, 15, 16, 17, 18, 19, 93, 94, 95, 96, 97, 98, 99, 100, 101, 102] (by decide +kernel) (by decide +kernel)
set_option maxRecDepth 20000 in
theorem gX5_highest_X2_stepOf : GoodIn wsX5_highest (wsV RX5 163 RX2 yX2_stepOf wsX2_stepOf) := goodIn_app (goodIn_of _ (by decide +kernel)) ggX5_highest_X2_stepOf
set_option maxRecDepth 20000 in
theorem ggX5_highest_X2_setStep : GoodIn wsX5_highest wsX2_setStep := goodIn_r _ [41, 32, 37, 15, 16, 17, 18, 19, 93, 94, 95, 96, 97, 98, 99, 100, 101, 102] (by decide +kernel) (by decide +kernel)
set_option maxRecDepth 20000 in
theorem gX5_highest_X2_setStep : GoodIn wsX5_highest (wsV RX5 205 RX2 yX2_setStep wsX2_setStep) := goodIn_app (goodIn_of _ (by decide +kernel)) ggX5_highest_X2_setStep
set_option maxRecDepth 20000 in
theorem ggX5_highest_X2_stands : GoodIn wsX5_highest wsX2_stands := goodIn_r _ [45, 46, 47, 48, 17, 49, 50, 51, 52, 53, 54, 55, 56, 57, 28, 25, 24, 58, 59, 60, 61, 62, 63, 64, 65, 26, 32, 31, 66, 67, 68, 69, 70, 71, 72, 73, 29, 74, 75, 76, 77, 27, 78, 79, 80, 81, 82, 83, 84, 85, 93, 94, 95, 96, 97, 98, 99, 100, 101, 102] (by decide +kernel) (by decide +kernel)
set_option maxRecDepth 20000 in
theorem gX5_highest_X2_stands : GoodIn wsX5_highest (wsV RX5 154 RX2 yX2_stands wsX2_stands) := goodIn_app (goodIn_of _ (by decide +kernel)) ggX5_highest_X2_stands
theorem dX5_highest_0 : decode cX5_highest 0 = .ok (.aload_n 0, 1) := by decide +kernel
theorem dX5_highest_1 : decode cX5_highest 1 = .ok (.iload_n 1, 1) := by decide +kernel
theorem dX5_highest_2 : decode cX5_highest 2 = .ok (.invokevirtual 37, 3) := by decide +kernel
theorem dX5_highest_5 : decode cX5_highest 5 = .ok (.astore_n 3, 1) := by decide +kernel
theorem dX5_highest_6 : decode cX5_highest 6 = .ok (.aload_n 3, 1) := by decide +kernel
theorem dX5_highest_7 : decode cX5_highest 7 = .ok (.iload_n 2, 1) := by decide +kernel
theorem dX5_highest_8 : decode cX5_highest 8 = .ok (.invokestatic 90, 3) := by decide +kernel
theorem dX5_highest_11 : decode cX5_highest 11 = .ok (.aload_n 0, 1) := by decide +kernel
theorem dX5_highest_12 : decode cX5_highest 12 = .ok (.getfield 33, 3) := by decide +kernel
theorem dX5_highest_15 : decode cX5_highest 15 = .ok (.aload_n 3, 1) := by decide +kernel
theorem dX5_highest_16 : decode cX5_highest 16 = .ok (.invokevirtual 201, 3) := by decide +kernel
theorem dX5_highest_19 : decode cX5_highest 19 = .ok (.aload_n 3, 1) := by decide +kernel
theorem dX5_highest_20 : decode cX5_highest 20 = .ok (.iload_n 2, 1) := by decide +kernel
theorem dX5_highest_21 : decode cX5_highest 21 = .ok (.invokevirtual 163, 3) := by decide +kernel
theorem dX5_highest_24 : decode cX5_highest 24 = .ok (.istore 4, 2) := by decide +kernel
theorem dX5_highest_26 : decode cX5_highest 26 = .ok (.iload 4, 2) := by decide +kernel
theorem dX5_highest_28 : decode cX5_highest 28 = .ok (.iconst 1, 1) := by decide +kernel
theorem dX5_highest_29 : decode cX5_highest 29 = .ok (.iadd, 1) := by decide +kernel
theorem dX5_highest_30 : decode cX5_highest 30 = .ok (.istore 5, 2) := by decide +kernel
theorem dX5_highest_32 : decode cX5_highest 32 = .ok (.iload 5, 2) := by decide +kernel
theorem dX5_highest_34 : decode cX5_highest 34 = .ok (.bipush 10, 2) := by decide +kernel
theorem dX5_highest_36 : decode cX5_highest 36 = .ok (.if_icmp .gt 36, 3) := by decide +kernel
theorem dX5_highest_39 : decode cX5_highest 39 = .ok (.aload_n 0, 1) := by decide +kernel
theorem dX5_highest_40 : decode cX5_highest 40 = .ok (.getfield 33, 3) := by decide +kernel
theorem dX5_highest_43 : decode cX5_highest 43 = .ok (.iload_n 2, 1) := by decide +kernel
theorem dX5_highest_44 : decode cX5_highest 44 = .ok (.iload 5, 2) := by decide +kernel
theorem dX5_highest_46 : decode cX5_highest 46 = .ok (.invokevirtual 205, 3) := by decide +kernel
theorem dX5_highest_49 : decode cX5_highest 49 = .ok (.aload_n 0, 1) := by decide +kernel
theorem dX5_highest_50 : decode cX5_highest 50 = .ok (.getfield 33, 3) := by decide +kernel
theorem dX5_highest_53 : decode cX5_highest 53 = .ok (.invokevirtual 154, 3) := by decide +kernel
theorem dX5_highest_56 : decode cX5_highest 56 = .ok (.ifCond .ne 6, 3) := by decide +kernel
theorem dX5_highest_59 : decode cX5_highest 59 = .ok (.iload 4, 2) := by decide +kernel
theorem dX5_highest_61 : decode cX5_highest 61 = .ok (.ireturn, 1) := by decide +kernel
theorem dX5_highest_62 : decode cX5_highest 62 = .ok (.iload 5, 2) := by decide +kernel
theorem dX5_highest_64 : decode cX5_highest 64 = .ok (.istore 4, 2) := by decide +kernel
theorem dX5_highest_66 : decode cX5_highest 66 = .ok (.iinc 5 1, 3) := by decide +kernel
theorem dX5_highest_69 : decode cX5_highest 69 = .ok (.goto (-37), 3) := by decide +kernel
theorem dX5_highest_72 : decode cX5_highest 72 = .ok (.iload 4, 2) := by decide +kernel
theorem dX5_highest_74 : decode cX5_highest 74 = .ok (.ireturn, 1) := by decide +kernel
set_option maxRecDepth 20000 in
theorem ggX5_neededRope_X5_rigOf : GoodIn wsX5_neededRope wsX5_rigOf := goodIn_ca (goodIn_r _ [7, 8, 9, 10, 11, 71, 72, 73, 74, 85, 86, 87] (by decide +kernel) (by decide +kernel)) (goodIn_sub (fun _ h => List.mem_cons_of_mem _ (List.mem_append_right _ h)) (by decide +kernel))
set_option maxRecDepth 20000 in
theorem gX5_neededRope_X5_rigOf : GoodIn wsX5_neededRope (wsV RX5 37 RX5 yX5_rigOf wsX5_rigOf) := goodIn_app (goodIn_of _ (by decide +kernel)) ggX5_neededRope_X5_rigOf
set_option maxRecDepth 20000 in
theorem ggX5_neededRope_X2_copyFrom : GoodIn wsX5_neededRope wsX2_copyFrom := goodIn_r _ [16, 17, 18, 19, 20, 21, 22, 23, 24, 25, 26, 75, 76, 77, 78, 79, 80, 81, 82, 83, 84] (by decide +kernel) (by decide +kernel)
set_option maxRecDepth 20000 in
theorem gX5_neededRope_X2_copyFrom : GoodIn wsX5_neededRope (wsV RX5 201 RX2 yX2_copyFrom wsX2_copyFrom) := goodIn_app (goodIn_of _ (by decide +kernel)) ggX5_neededRope_X2_copyFrom
set_option maxRecDepth 20000 in
theorem ggX5_neededRope_X2_stands : GoodIn wsX5_neededRope wsX2_stands := goodIn_r _ [30, 31, 32, 33, 15, 34, 35, 36, 37, 38, 39, 40, 41, 42, 21, 18, 17, 43, 44, 45, 46, 47, 48, 49, 50, 19, 26, 25, 51, 52, 53, 54, 55, 56, 57, 58, 22, 59, 60, 61, 62, 20, 63, 64, 65, 66, 67, 68, 69, 70, 75, 76, 77, 78, 79, 80, 81, 82, 83, 84] (by decide +kernel) (by decide +kernel)
set_option maxRecDepth 20000 in
theorem gX5_neededRope_X2_stands : GoodIn wsX5_neededRope (wsV RX5 154 RX2 yX2_stands wsX2_stands) := goodIn_app (goodIn_of _ (by decide +kernel)) ggX5_neededRope_X2_stands
theorem dX5_neededRope_0 : decode cX5_neededRope 0 = .ok (.aload_n 0, 1) := by decide +kernel
theorem dX5_neededRope_1 : decode cX5_neededRope 1 = .ok (.getfield 33, 3) := by decide +kernel
theorem dX5_neededRope_4 : decode cX5_neededRope 4 = .ok (.aload_n 0, 1) := by decide +kernel
theorem dX5_neededRope_5 : decode cX5_neededRope 5 = .ok (.iload_n 1, 1) := by decide +kernel
theorem dX5_neededRope_6 : decode cX5_neededRope 6 = .ok (.invokevirtual 37, 3) := by decide +kernel
theorem dX5_neededRope_9 : decode cX5_neededRope 9 = .ok (.invokevirtual 201, 3) := by decide +kernel
theorem dX5_neededRope_12 : decode cX5_neededRope 12 = .ok (.iconst 0, 1) := by decide +kernel
theorem dX5_neededRope_13 : decode cX5_neededRope 13 = .ok (.istore_n 2, 1) := by decide +kernel
theorem dX5_neededRope_14 : decode cX5_neededRope 14 = .ok (.iload_n 2, 1) := by decide +kernel
theorem dX5_neededRope_15 : decode cX5_neededRope 15 = .ok (.sipush 200, 3) := by decide +kernel
theorem dX5_neededRope_18 : decode cX5_neededRope 18 = .ok (.if_icmp .gt 29, 3) := by decide +kernel
theorem dX5_neededRope_21 : decode cX5_neededRope 21 = .ok (.aload_n 0, 1) := by decide +kernel
theorem dX5_neededRope_22 : decode cX5_neededRope 22 = .ok (.getfield 33, 3) := by decide +kernel
theorem dX5_neededRope_25 : decode cX5_neededRope 25 = .ok (.iload_n 2, 1) := by decide +kernel
theorem dX5_neededRope_26 : decode cX5_neededRope 26 = .ok (.putfield 69, 3) := by decide +kernel
theorem dX5_neededRope_29 : decode cX5_neededRope 29 = .ok (.aload_n 0, 1) := by decide +kernel
theorem dX5_neededRope_30 : decode cX5_neededRope 30 = .ok (.getfield 33, 3) := by decide +kernel
theorem dX5_neededRope_33 : decode cX5_neededRope 33 = .ok (.invokevirtual 154, 3) := by decide +kernel
theorem dX5_neededRope_36 : decode cX5_neededRope 36 = .ok (.ifCond .eq 5, 3) := by decide +kernel
theorem dX5_neededRope_39 : decode cX5_neededRope 39 = .ok (.iload_n 2, 1) := by decide +kernel
theorem dX5_neededRope_40 : decode cX5_neededRope 40 = .ok (.ireturn, 1) := by decide +kernel
theorem dX5_neededRope_41 : decode cX5_neededRope 41 = .ok (.iinc 2 1, 3) := by decide +kernel
theorem dX5_neededRope_44 : decode cX5_neededRope 44 = .ok (.goto (-30), 3) := by decide +kernel
theorem dX5_neededRope_47 : decode cX5_neededRope 47 = .ok (.iconst (-1), 1) := by decide +kernel
theorem dX5_neededRope_48 : decode cX5_neededRope 48 = .ok (.ireturn, 1) := by decide +kernel
set_option maxRecDepth 20000 in
theorem ggX5_bestBase_X5_rigOf : GoodIn wsX5_bestBase wsX5_rigOf := goodIn_ca (goodIn_r _ [7, 8, 9, 10, 11, 71, 72, 73, 74, 85, 86, 87] (by decide +kernel) (by decide +kernel)) (goodIn_sub (fun _ h => List.mem_cons_of_mem _ (List.mem_append_right _ h)) (by decide +kernel))
set_option maxRecDepth 20000 in
theorem gX5_bestBase_X5_rigOf : GoodIn wsX5_bestBase (wsV RX5 37 RX5 yX5_rigOf wsX5_rigOf) := goodIn_app (goodIn_of _ (by decide +kernel)) ggX5_bestBase_X5_rigOf
set_option maxRecDepth 20000 in
theorem ggX5_bestBase_X2_copyFrom : GoodIn wsX5_bestBase wsX2_copyFrom := goodIn_r _ [16, 17, 18, 19, 20, 21, 22, 23, 24, 25, 26, 75, 76, 77, 78, 79, 80, 81, 82, 83, 84] (by decide +kernel) (by decide +kernel)
set_option maxRecDepth 20000 in
theorem gX5_bestBase_X2_copyFrom : GoodIn wsX5_bestBase (wsV RX5 201 RX2 yX2_copyFrom wsX2_copyFrom) := goodIn_app (goodIn_of _ (by decide +kernel)) ggX5_bestBase_X2_copyFrom
set_option maxRecDepth 20000 in
theorem ggX5_bestBase_X2_forces : GoodIn wsX5_bestBase wsX2_forces := goodIn_r _ [30, 31, 32, 33, 34, 35, 36, 37, 15, 38, 18, 17, 39, 40, 41, 42, 21, 43, 44, 45, 46, 19, 26, 25, 47, 48, 49, 50, 51, 52, 53, 54, 55, 56, 57, 58, 59, 60, 61, 62, 22, 63, 64, 65, 66, 20, 67, 68, 69, 70, 75, 76, 77, 78, 79, 80, 81, 82, 83, 84] (by decide +kernel) (by decide +kernel)
set_option maxRecDepth 20000 in
theorem gX5_bestBase_X2_forces : GoodIn wsX5_bestBase (wsV RX5 168 RX2 yX2_forces wsX2_forces) := goodIn_app (goodIn_of _ (by decide +kernel)) ggX5_bestBase_X2_forces
theorem dX5_bestBase_0 : decode cX5_bestBase 0 = .ok (.aload_n 0, 1) := by decide +kernel
theorem dX5_bestBase_1 : decode cX5_bestBase 1 = .ok (.getfield 33, 3) := by decide +kernel
theorem dX5_bestBase_4 : decode cX5_bestBase 4 = .ok (.aload_n 0, 1) := by decide +kernel
theorem dX5_bestBase_5 : decode cX5_bestBase 5 = .ok (.iload_n 1, 1) := by decide +kernel
theorem dX5_bestBase_6 : decode cX5_bestBase 6 = .ok (.invokevirtual 37, 3) := by decide +kernel
theorem dX5_bestBase_9 : decode cX5_bestBase 9 = .ok (.invokevirtual 201, 3) := by decide +kernel
theorem dX5_bestBase_12 : decode cX5_bestBase 12 = .ok (.iconst (-1), 1) := by decide +kernel
theorem dX5_bestBase_13 : decode cX5_bestBase 13 = .ok (.istore_n 2, 1) := by decide +kernel
theorem dX5_bestBase_14 : decode cX5_bestBase 14 = .ok (.iconst 0, 1) := by decide +kernel
theorem dX5_bestBase_15 : decode cX5_bestBase 15 = .ok (.istore_n 3, 1) := by decide +kernel
theorem dX5_bestBase_16 : decode cX5_bestBase 16 = .ok (.bipush 10, 2) := by decide +kernel
theorem dX5_bestBase_18 : decode cX5_bestBase 18 = .ok (.istore 4, 2) := by decide +kernel
theorem dX5_bestBase_20 : decode cX5_bestBase 20 = .ok (.iload 4, 2) := by decide +kernel
theorem dX5_bestBase_22 : decode cX5_bestBase 22 = .ok (.bipush 100, 2) := by decide +kernel
theorem dX5_bestBase_24 : decode cX5_bestBase 24 = .ok (.if_icmp .gt 39, 3) := by decide +kernel
theorem dX5_bestBase_27 : decode cX5_bestBase 27 = .ok (.aload_n 0, 1) := by decide +kernel
theorem dX5_bestBase_28 : decode cX5_bestBase 28 = .ok (.getfield 33, 3) := by decide +kernel
theorem dX5_bestBase_31 : decode cX5_bestBase 31 = .ok (.iload 4, 2) := by decide +kernel
theorem dX5_bestBase_33 : decode cX5_bestBase 33 = .ok (.putfield 49, 3) := by decide +kernel
theorem dX5_bestBase_36 : decode cX5_bestBase 36 = .ok (.aload_n 0, 1) := by decide +kernel
theorem dX5_bestBase_37 : decode cX5_bestBase 37 = .ok (.getfield 33, 3) := by decide +kernel
theorem dX5_bestBase_40 : decode cX5_bestBase 40 = .ok (.invokevirtual 168, 3) := by decide +kernel
theorem dX5_bestBase_43 : decode cX5_bestBase 43 = .ok (.istore 5, 2) := by decide +kernel
theorem dX5_bestBase_45 : decode cX5_bestBase 45 = .ok (.iload 5, 2) := by decide +kernel
theorem dX5_bestBase_47 : decode cX5_bestBase 47 = .ok (.iload_n 3, 1) := by decide +kernel
theorem dX5_bestBase_48 : decode cX5_bestBase 48 = .ok (.if_icmp .le 9, 3) := by decide +kernel
theorem dX5_bestBase_51 : decode cX5_bestBase 51 = .ok (.iload 4, 2) := by decide +kernel
theorem dX5_bestBase_53 : decode cX5_bestBase 53 = .ok (.istore_n 2, 1) := by decide +kernel
theorem dX5_bestBase_54 : decode cX5_bestBase 54 = .ok (.iload 5, 2) := by decide +kernel
theorem dX5_bestBase_56 : decode cX5_bestBase 56 = .ok (.istore_n 3, 1) := by decide +kernel
theorem dX5_bestBase_57 : decode cX5_bestBase 57 = .ok (.iinc 4 5, 3) := by decide +kernel
theorem dX5_bestBase_60 : decode cX5_bestBase 60 = .ok (.goto (-40), 3) := by decide +kernel
theorem dX5_bestBase_63 : decode cX5_bestBase 63 = .ok (.iload_n 2, 1) := by decide +kernel
theorem dX5_bestBase_64 : decode cX5_bestBase 64 = .ok (.ireturn, 1) := by decide +kernel
set_option maxRecDepth 20000 in
theorem ggX5_riskiest_X5_rigOf : GoodIn wsX5_riskiest wsX5_rigOf := goodIn_ca (goodIn_r _ [7, 8, 9, 10, 11, 89, 90, 91, 92, 93, 94, 95] (by decide +kernel) (by decide +kernel)) (goodIn_sub (fun _ h => List.mem_cons_of_mem _ (List.mem_append_right _ h)) (by decide +kernel))
set_option maxRecDepth 20000 in
theorem gX5_riskiest_X5_rigOf : GoodIn wsX5_riskiest (wsV RX5 37 RX5 yX5_rigOf wsX5_rigOf) := goodIn_app (goodIn_of _ (by decide +kernel)) ggX5_riskiest_X5_rigOf
set_option maxRecDepth 20000 in
theorem ggX5_riskiest_X2_copyFrom : GoodIn wsX5_riskiest wsX2_copyFrom := goodIn_r _ [16, 17, 18, 19, 20, 21, 22, 23, 24, 25, 26, 79, 80, 81, 82, 83, 84, 85, 86, 87, 88] (by decide +kernel) (by decide +kernel)
set_option maxRecDepth 20000 in
theorem gX5_riskiest_X2_copyFrom : GoodIn wsX5_riskiest (wsV RX5 201 RX2 yX2_copyFrom wsX2_copyFrom) := goodIn_app (goodIn_of _ (by decide +kernel)) ggX5_riskiest_X2_copyFrom
set_option maxRecDepth 20000 in
theorem ggX5_riskiest_X2_remove : GoodIn wsX5_riskiest wsX2_remove := goodIn_r _ [30, 25, 26, 24, 31, 32, 33, 15, 34, 79, 80, 81, 82, 83, 84, 85, 86, 87, 88] (by decide +kernel) (by decide +kernel)
set_option maxRecDepth 20000 in
theorem gX5_riskiest_X2_remove : GoodIn wsX5_riskiest (wsV RX5 94 RX2 yX2_remove wsX2_remove) := goodIn_app (goodIn_of _ (by decide +kernel)) ggX5_riskiest_X2_remove
set_option maxRecDepth 20000 in
theorem ggX5_riskiest_X2_forces : GoodIn wsX5_riskiest wsX2_forces := goodIn_r _ [38, 39, 40, 41, 42, 43, 44, 45, 15, 46, 18, 17, 47, 48, 49, 50, 21, 51, 52, 53, 54, 19, 26, 25, 55, 56, 57, 58, 59, 60, 61, 62, 63, 64, 65, 66, 67, 68, 69, 70, 22, 71, 72, 73, 74, 20, 75, 76, 77, 78, 79, 80, 81, 82, 83, 84, 85, 86, 87, 88] (by decide +kernel) (by decide +kernel)
set_option maxRecDepth 20000 in
theorem gX5_riskiest_X2_forces : GoodIn wsX5_riskiest (wsV RX5 168 RX2 yX2_forces wsX2_forces) := goodIn_app (goodIn_of _ (by decide +kernel)) ggX5_riskiest_X2_forces
theorem dX5_riskiest_0 : decode cX5_riskiest 0 = .ok (.aload_n 0, 1) := by decide +kernel
theorem dX5_riskiest_1 : decode cX5_riskiest 1 = .ok (.iload_n 1, 1) := by decide +kernel
theorem dX5_riskiest_2 : decode cX5_riskiest 2 = .ok (.invokevirtual 37, 3) := by decide +kernel
theorem dX5_riskiest_5 : decode cX5_riskiest 5 = .ok (.astore_n 2, 1) := by decide +kernel
theorem dX5_riskiest_6 : decode cX5_riskiest 6 = .ok (.iconst (-1), 1) := by decide +kernel
theorem dX5_riskiest_7 : decode cX5_riskiest 7 = .ok (.istore_n 3, 1) := by decide +kernel
theorem dX5_riskiest_8 : decode cX5_riskiest 8 = .ok (.iconst 0, 1) := by decide +kernel
theorem dX5_riskiest_9 : decode cX5_riskiest 9 = .ok (.istore 4, 2) := by decide +kernel
theorem dX5_riskiest_11 : decode cX5_riskiest 11 = .ok (.iconst 0, 1) := by decide +kernel
theorem dX5_riskiest_12 : decode cX5_riskiest 12 = .ok (.istore 5, 2) := by decide +kernel
theorem dX5_riskiest_14 : decode cX5_riskiest 14 = .ok (.iload 5, 2) := by decide +kernel
theorem dX5_riskiest_16 : decode cX5_riskiest 16 = .ok (.aload_n 2, 1) := by decide +kernel
theorem dX5_riskiest_17 : decode cX5_riskiest 17 = .ok (.getfield 87, 3) := by decide +kernel
theorem dX5_riskiest_20 : decode cX5_riskiest 20 = .ok (.if_icmp .ge 54, 3) := by decide +kernel
theorem dX5_riskiest_23 : decode cX5_riskiest 23 = .ok (.aload_n 0, 1) := by decide +kernel
theorem dX5_riskiest_24 : decode cX5_riskiest 24 = .ok (.getfield 33, 3) := by decide +kernel
theorem dX5_riskiest_27 : decode cX5_riskiest 27 = .ok (.aload_n 2, 1) := by decide +kernel
theorem dX5_riskiest_28 : decode cX5_riskiest 28 = .ok (.invokevirtual 201, 3) := by decide +kernel
theorem dX5_riskiest_31 : decode cX5_riskiest 31 = .ok (.aload_n 0, 1) := by decide +kernel
theorem dX5_riskiest_32 : decode cX5_riskiest 32 = .ok (.getfield 33, 3) := by decide +kernel
theorem dX5_riskiest_35 : decode cX5_riskiest 35 = .ok (.iload 5, 2) := by decide +kernel
theorem dX5_riskiest_37 : decode cX5_riskiest 37 = .ok (.invokevirtual 94, 3) := by decide +kernel
theorem dX5_riskiest_40 : decode cX5_riskiest 40 = .ok (.aload_n 0, 1) := by decide +kernel
theorem dX5_riskiest_41 : decode cX5_riskiest 41 = .ok (.getfield 33, 3) := by decide +kernel
theorem dX5_riskiest_44 : decode cX5_riskiest 44 = .ok (.invokevirtual 168, 3) := by decide +kernel
theorem dX5_riskiest_47 : decode cX5_riskiest 47 = .ok (.istore 6, 2) := by decide +kernel
theorem dX5_riskiest_49 : decode cX5_riskiest 49 = .ok (.iload_n 3, 1) := by decide +kernel
theorem dX5_riskiest_50 : decode cX5_riskiest 50 = .ok (.iconst (-1), 1) := by decide +kernel
theorem dX5_riskiest_51 : decode cX5_riskiest 51 = .ok (.if_icmp .eq 10, 3) := by decide +kernel
theorem dX5_riskiest_54 : decode cX5_riskiest 54 = .ok (.iload 6, 2) := by decide +kernel
theorem dX5_riskiest_56 : decode cX5_riskiest 56 = .ok (.iload 4, 2) := by decide +kernel
theorem dX5_riskiest_58 : decode cX5_riskiest 58 = .ok (.if_icmp .le 10, 3) := by decide +kernel
theorem dX5_riskiest_61 : decode cX5_riskiest 61 = .ok (.iload 5, 2) := by decide +kernel
theorem dX5_riskiest_63 : decode cX5_riskiest 63 = .ok (.istore_n 3, 1) := by decide +kernel
theorem dX5_riskiest_64 : decode cX5_riskiest 64 = .ok (.iload 6, 2) := by decide +kernel
theorem dX5_riskiest_66 : decode cX5_riskiest 66 = .ok (.istore 4, 2) := by decide +kernel
theorem dX5_riskiest_68 : decode cX5_riskiest 68 = .ok (.iinc 5 1, 3) := by decide +kernel
theorem dX5_riskiest_71 : decode cX5_riskiest 71 = .ok (.goto (-57), 3) := by decide +kernel
theorem dX5_riskiest_74 : decode cX5_riskiest 74 = .ok (.iload_n 3, 1) := by decide +kernel
theorem dX5_riskiest_75 : decode cX5_riskiest 75 = .ok (.ireturn, 1) := by decide +kernel
set_option maxRecDepth 20000 in
theorem ggX5_walls_X5_rigOf : GoodIn wsX5_walls wsX5_rigOf := goodIn_ca (goodIn_r _ [7, 8, 9, 10, 11, 71, 72, 73, 74, 85, 86, 87] (by decide +kernel) (by decide +kernel)) (goodIn_sub (fun _ h => List.mem_cons_of_mem _ (List.mem_append_right _ h)) (by decide +kernel))
set_option maxRecDepth 20000 in
theorem gX5_walls_X5_rigOf : GoodIn wsX5_walls (wsV RX5 37 RX5 yX5_rigOf wsX5_rigOf) := goodIn_app (goodIn_of _ (by decide +kernel)) ggX5_walls_X5_rigOf
set_option maxRecDepth 20000 in
theorem ggX5_walls_X2_copyFrom : GoodIn wsX5_walls wsX2_copyFrom := goodIn_r _ [16, 17, 18, 19, 20, 21, 22, 23, 24, 25, 26, 75, 76, 77, 78, 79, 80, 81, 82, 83, 84] (by decide +kernel) (by decide +kernel)
set_option maxRecDepth 20000 in
theorem gX5_walls_X2_copyFrom : GoodIn wsX5_walls (wsV RX5 201 RX2 yX2_copyFrom wsX2_copyFrom) := goodIn_app (goodIn_of _ (by decide +kernel)) ggX5_walls_X2_copyFrom
set_option maxRecDepth 20000 in
theorem ggX5_walls_X2_stands : GoodIn wsX5_walls wsX2_stands := goodIn_r _ [30, 31, 32, 33, 15, 34, 35, 36, 37, 38, 39, 40, 41, 42, 21, 18, 17, 43, 44, 45, 46, 47, 48, 49, 50, 19, 26, 25, 51, 52, 53, 54, 55, 56, 57, 58, 22, 59, 60, 61, 62, 20, 63, 64, 65, 66, 67, 68, 69, 70, 75, 76, 77, 78, 79, 80, 81, 82, 83, 84] (by decide +kernel) (by decide +kernel)
set_option maxRecDepth 20000 in
theorem gX5_walls_X2_stands : GoodIn wsX5_walls (wsV RX5 154 RX2 yX2_stands wsX2_stands) := goodIn_app (goodIn_of _ (by decide +kernel)) ggX5_walls_X2_stands
theorem dX5_walls_0 : decode cX5_walls 0 = .ok (.aload_n 0, 1) := by decide +kernel
theorem dX5_walls_1 : decode cX5_walls 1 = .ok (.getfield 33, 3) := by decide +kernel
theorem dX5_walls_4 : decode cX5_walls 4 = .ok (.aload_n 0, 1) := by decide +kernel
theorem dX5_walls_5 : decode cX5_walls 5 = .ok (.iload_n 1, 1) := by decide +kernel
theorem dX5_walls_6 : decode cX5_walls 6 = .ok (.invokevirtual 37, 3) := by decide +kernel
theorem dX5_walls_9 : decode cX5_walls 9 = .ok (.invokevirtual 201, 3) := by decide +kernel
theorem dX5_walls_12 : decode cX5_walls 12 = .ok (.iconst 0, 1) := by decide +kernel
theorem dX5_walls_13 : decode cX5_walls 13 = .ok (.istore_n 2, 1) := by decide +kernel
theorem dX5_walls_14 : decode cX5_walls 14 = .ok (.iconst 0, 1) := by decide +kernel
theorem dX5_walls_15 : decode cX5_walls 15 = .ok (.istore_n 3, 1) := by decide +kernel
theorem dX5_walls_16 : decode cX5_walls 16 = .ok (.iload_n 3, 1) := by decide +kernel
theorem dX5_walls_17 : decode cX5_walls 17 = .ok (.iconst 4, 1) := by decide +kernel
theorem dX5_walls_18 : decode cX5_walls 18 = .ok (.if_icmp .ge 33, 3) := by decide +kernel
theorem dX5_walls_21 : decode cX5_walls 21 = .ok (.aload_n 0, 1) := by decide +kernel
theorem dX5_walls_22 : decode cX5_walls 22 = .ok (.getfield 33, 3) := by decide +kernel
theorem dX5_walls_25 : decode cX5_walls 25 = .ok (.iload_n 3, 1) := by decide +kernel
theorem dX5_walls_26 : decode cX5_walls 26 = .ok (.putfield 66, 3) := by decide +kernel
theorem dX5_walls_29 : decode cX5_walls 29 = .ok (.aload_n 0, 1) := by decide +kernel
theorem dX5_walls_30 : decode cX5_walls 30 = .ok (.getfield 33, 3) := by decide +kernel
theorem dX5_walls_33 : decode cX5_walls 33 = .ok (.invokevirtual 154, 3) := by decide +kernel
theorem dX5_walls_36 : decode cX5_walls 36 = .ok (.ifCond .eq 9, 3) := by decide +kernel
theorem dX5_walls_39 : decode cX5_walls 39 = .ok (.iload_n 2, 1) := by decide +kernel
theorem dX5_walls_40 : decode cX5_walls 40 = .ok (.iconst 1, 1) := by decide +kernel
theorem dX5_walls_41 : decode cX5_walls 41 = .ok (.iload_n 3, 1) := by decide +kernel
theorem dX5_walls_42 : decode cX5_walls 42 = .ok (.ishl, 1) := by decide +kernel
theorem dX5_walls_43 : decode cX5_walls 43 = .ok (.ior, 1) := by decide +kernel
theorem dX5_walls_44 : decode cX5_walls 44 = .ok (.istore_n 2, 1) := by decide +kernel
theorem dX5_walls_45 : decode cX5_walls 45 = .ok (.iinc 3 1, 3) := by decide +kernel
theorem dX5_walls_48 : decode cX5_walls 48 = .ok (.goto (-32), 3) := by decide +kernel
theorem dX5_walls_51 : decode cX5_walls 51 = .ok (.iload_n 2, 1) := by decide +kernel
theorem dX5_walls_52 : decode cX5_walls 52 = .ok (.ireturn, 1) := by decide +kernel
set_option maxRecDepth 20000 in
theorem ggX5_safety_X3_people : GoodIn wsX5_safety wsX3_people := goodIn_r _ [7, 8, 9, 14, 15, 16, 17, 18, 19, 20, 21, 22, 23, 24, 25, 26] (by decide +kernel) (by decide +kernel)
set_option maxRecDepth 20000 in
theorem gX5_safety_X3_people : GoodIn wsX5_safety (wsV RX5 189 RX3 yX3_people wsX3_people) := goodIn_app (goodIn_of _ (by decide +kernel)) ggX5_safety_X3_people
theorem dX5_safety_0 : decode cX5_safety 0 = .ok (.aload_n 0, 1) := by decide +kernel
theorem dX5_safety_1 : decode cX5_safety 1 = .ok (.getfield 10, 3) := by decide +kernel
theorem dX5_safety_4 : decode cX5_safety 4 = .ok (.invokevirtual 189, 3) := by decide +kernel
theorem dX5_safety_7 : decode cX5_safety 7 = .ok (.istore_n 1, 1) := by decide +kernel
theorem dX5_safety_8 : decode cX5_safety 8 = .ok (.iload_n 1, 1) := by decide +kernel
theorem dX5_safety_9 : decode cX5_safety 9 = .ok (.aload_n 0, 1) := by decide +kernel
theorem dX5_safety_10 : decode cX5_safety 10 = .ok (.getfield 10, 3) := by decide +kernel
theorem dX5_safety_13 : decode cX5_safety 13 = .ok (.getfield 193, 3) := by decide +kernel
theorem dX5_safety_16 : decode cX5_safety 16 = .ok (.iadd, 1) := by decide +kernel
theorem dX5_safety_17 : decode cX5_safety 17 = .ok (.istore_n 2, 1) := by decide +kernel
theorem dX5_safety_18 : decode cX5_safety 18 = .ok (.iload_n 2, 1) := by decide +kernel
theorem dX5_safety_19 : decode cX5_safety 19 = .ok (.ifCond .ne 7, 3) := by decide +kernel
theorem dX5_safety_22 : decode cX5_safety 22 = .ok (.dconst 1, 1) := by decide +kernel
theorem dX5_safety_23 : decode cX5_safety 23 = .ok (.goto 8, 3) := by decide +kernel
theorem dX5_safety_26 : decode cX5_safety 26 = .ok (.iload_n 1, 1) := by decide +kernel
theorem dX5_safety_27 : decode cX5_safety 27 = .ok (.i2d, 1) := by decide +kernel
theorem dX5_safety_28 : decode cX5_safety 28 = .ok (.iload_n 2, 1) := by decide +kernel
theorem dX5_safety_29 : decode cX5_safety 29 = .ok (.i2d, 1) := by decide +kernel
theorem dX5_safety_30 : decode cX5_safety 30 = .ok (.ddiv, 1) := by decide +kernel
theorem dX5_safety_31 : decode cX5_safety 31 = .ok (.dreturn, 1) := by decide +kernel
theorem dX5_rigOf_0 : decode cX5_rigOf 0 = .ok (.iload_n 1, 1) := by decide +kernel
theorem dX5_rigOf_1 : decode cX5_rigOf 1 = .ok (.ifCond .lt 8, 3) := by decide +kernel
theorem dX5_rigOf_4 : decode cX5_rigOf 4 = .ok (.iload_n 1, 1) := by decide +kernel
theorem dX5_rigOf_5 : decode cX5_rigOf 5 = .ok (.iconst 4, 1) := by decide +kernel
theorem dX5_rigOf_6 : decode cX5_rigOf 6 = .ok (.if_icmp .lt 14, 3) := by decide +kernel
theorem dX5_rigOf_9 : decode cX5_rigOf 9 = .ok (.new 280, 3) := by decide +kernel
theorem dX5_rigOf_12 : decode cX5_rigOf 12 = .ok (.dup, 1) := by decide +kernel
theorem dX5_rigOf_13 : decode cX5_rigOf 13 = .ok (.ldc_w 282, 3) := by decide +kernel
theorem dX5_rigOf_16 : decode cX5_rigOf 16 = .ok (.invokespecial 284, 3) := by decide +kernel
theorem dX5_rigOf_19 : decode cX5_rigOf 19 = .ok (.athrow, 1) := by decide +kernel
theorem dX5_rigOf_20 : decode cX5_rigOf 20 = .ok (.aload_n 0, 1) := by decide +kernel
theorem dX5_rigOf_21 : decode cX5_rigOf 21 = .ok (.getfield 10, 3) := by decide +kernel
theorem dX5_rigOf_24 : decode cX5_rigOf 24 = .ok (.getfield 285, 3) := by decide +kernel
theorem dX5_rigOf_27 : decode cX5_rigOf 27 = .ok (.iload_n 1, 1) := by decide +kernel
theorem dX5_rigOf_28 : decode cX5_rigOf 28 = .ok (.aaload, 1) := by decide +kernel
theorem dX5_rigOf_29 : decode cX5_rigOf 29 = .ok (.areturn, 1) := by decide +kernel
set_option maxRecDepth 20000 in
theorem ggX5_demandPerson_X2_bears : GoodIn wsX5_demandPerson wsX2_bears := goodIn_r _ [7, 8, 9, 10, 11, 12, 13, 14, 15, 16, 17, 18] (by decide +kernel) (by decide +kernel)
set_option maxRecDepth 20000 in
theorem gX5_demandPerson_X2_bears : GoodIn wsX5_demandPerson (wsV RX5 289 RX2 yX2_bears wsX2_bears) := goodIn_app (goodIn_of _ (by decide +kernel)) ggX5_demandPerson_X2_bears
theorem dX5_demandPerson_0 : decode cX5_demandPerson 0 = .ok (.aload_n 0, 1) := by decide +kernel
theorem dX5_demandPerson_1 : decode cX5_demandPerson 1 = .ok (.iload_n 1, 1) := by decide +kernel
theorem dX5_demandPerson_2 : decode cX5_demandPerson 2 = .ok (.invokevirtual 289, 3) := by decide +kernel
theorem dX5_demandPerson_5 : decode cX5_demandPerson 5 = .ok (.ifCond .ne 14, 3) := by decide +kernel
theorem dX5_demandPerson_8 : decode cX5_demandPerson 8 = .ok (.new 280, 3) := by decide +kernel
theorem dX5_demandPerson_11 : decode cX5_demandPerson 11 = .ok (.dup, 1) := by decide +kernel
theorem dX5_demandPerson_12 : decode cX5_demandPerson 12 = .ok (.ldc_w 293, 3) := by decide +kernel
theorem dX5_demandPerson_15 : decode cX5_demandPerson 15 = .ok (.invokespecial 284, 3) := by decide +kernel
theorem dX5_demandPerson_18 : decode cX5_demandPerson 18 = .ok (.athrow, 1) := by decide +kernel
theorem dX5_demandPerson_19 : decode cX5_demandPerson 19 = .ok (.return_, 1) := by decide +kernel
theorem dX5_demandRange_0 : decode cX5_demandRange 0 = .ok (.iload_n 0, 1) := by decide +kernel
theorem dX5_demandRange_1 : decode cX5_demandRange 1 = .ok (.iload_n 1, 1) := by decide +kernel
theorem dX5_demandRange_2 : decode cX5_demandRange 2 = .ok (.if_icmp .lt 8, 3) := by decide +kernel
theorem dX5_demandRange_5 : decode cX5_demandRange 5 = .ok (.iload_n 0, 1) := by decide +kernel
theorem dX5_demandRange_6 : decode cX5_demandRange 6 = .ok (.iload_n 2, 1) := by decide +kernel
theorem dX5_demandRange_7 : decode cX5_demandRange 7 = .ok (.if_icmp .le 14, 3) := by decide +kernel
theorem dX5_demandRange_10 : decode cX5_demandRange 10 = .ok (.new 118, 3) := by decide +kernel
theorem dX5_demandRange_13 : decode cX5_demandRange 13 = .ok (.dup, 1) := by decide +kernel
theorem dX5_demandRange_14 : decode cX5_demandRange 14 = .ok (.ldc_w 295, 3) := by decide +kernel
theorem dX5_demandRange_17 : decode cX5_demandRange 17 = .ok (.invokespecial 122, 3) := by decide +kernel
theorem dX5_demandRange_20 : decode cX5_demandRange 20 = .ok (.athrow, 1) := by decide +kernel
theorem dX5_demandRange_21 : decode cX5_demandRange 21 = .ok (.return_, 1) := by decide +kernel
end
section
theorem dL_cell_0 : decode cL_cell 0 = .ok (.iload_n 1, 1) := by decide +kernel
theorem dL_cell_1 : decode cL_cell 1 = .ok (.aload_n 0, 1) := by decide +kernel
theorem dL_cell_2 : decode cL_cell 2 = .ok (.arraylength, 1) := by decide +kernel
theorem dL_cell_3 : decode cL_cell 3 = .ok (.if_icmp .ge 9, 3) := by decide +kernel
theorem dL_cell_6 : decode cL_cell 6 = .ok (.aload_n 0, 1) := by decide +kernel
theorem dL_cell_7 : decode cL_cell 7 = .ok (.iload_n 1, 1) := by decide +kernel
theorem dL_cell_8 : decode cL_cell 8 = .ok (.iaload, 1) := by decide +kernel
theorem dL_cell_9 : decode cL_cell 9 = .ok (.goto 16, 3) := by decide +kernel
theorem dL_cell_12 : decode cL_cell 12 = .ok (.sipush 7919, 3) := by decide +kernel
theorem dL_cell_15 : decode cL_cell 15 = .ok (.iload_n 1, 1) := by decide +kernel
theorem dL_cell_16 : decode cL_cell 16 = .ok (.bipush 7, 2) := by decide +kernel
theorem dL_cell_18 : decode cL_cell 18 = .ok (.iadd, 1) := by decide +kernel
theorem dL_cell_19 : decode cL_cell 19 = .ok (.imul, 1) := by decide +kernel
theorem dL_cell_20 : decode cL_cell 20 = .ok (.iload_n 1, 1) := by decide +kernel
theorem dL_cell_21 : decode cL_cell 21 = .ok (.bipush 97, 2) := by decide +kernel
theorem dL_cell_23 : decode cL_cell 23 = .ok (.iadd, 1) := by decide +kernel
theorem dL_cell_24 : decode cL_cell 24 = .ok (.imul, 1) := by decide +kernel
theorem dL_cell_25 : decode cL_cell 25 = .ok (.ireturn, 1) := by decide +kernel
theorem dL_low_0 : decode cL_low 0 = .ok (.iload_n 0, 1) := by decide +kernel
theorem dL_low_1 : decode cL_low 1 = .ok (.ldc 7, 2) := by decide +kernel
theorem dL_low_3 : decode cL_low 3 = .ok (.iand, 1) := by decide +kernel
theorem dL_low_4 : decode cL_low 4 = .ok (.iload_n 1, 1) := by decide +kernel
theorem dL_low_5 : decode cL_low 5 = .ok (.irem, 1) := by decide +kernel
theorem dL_low_6 : decode cL_low 6 = .ok (.ireturn, 1) := by decide +kernel
set_option maxRecDepth 20000 in
theorem ggL_changes_X5_put : GoodIn wsL_changes wsX5_put := goodIn_ca (goodIn_ca (goodIn_r _ [8, 9, 10, 11, 12, 13, 14, 15, 16, 7, 17, 18, 19, 20, 21, 22, 23, 24, 25, 26, 27, 28, 29, 30, 31, 32, 33, 34, 35, 36, 37, 38, 39, 40, 41, 42, 43, 44, 45, 46, 47, 48, 49, 50, 51, 52, 53, 54, 55, 56, 57, 58, 59, 60, 61, 62, 63, 64, 65, 66, 67, 68, 69, 70, 71, 72, 73, 74, 75, 76, 77, 78, 79, 80, 81, 82, 83, 84, 85, 86, 87, 88, 89, 90, 91, 92, 93, 94, 95, 96, 97, 98, 99, 100, 101, 102, 103, 104, 105, 106, 107, 108, 109, 110, 111, 112, 113, 114, 115, 116, 117, 179, 180, 181, 182, 183, 184, 185, 186, 187, 188, 189, 190, 191, 192, 193, 194, 195, 196, 197, 198] (by decide +kernel) (by decide +kernel)) (goodIn_sub (fun _ h => List.mem_cons_of_mem _ (List.mem_append_left _ (List.mem_append_left _ (List.mem_append_right _ h)))) (by decide +kernel))) (goodIn_sub (fun _ h => List.mem_cons_of_mem _ (List.mem_append_left _ (List.mem_append_right _ h))) (by decide +kernel))
set_option maxRecDepth 20000 in
theorem gL_changes_X5_put : GoodIn wsL_changes (wsV RL 8 RX5 yX5_put wsX5_put) := goodIn_app (goodIn_of _ (by decide +kernel)) ggL_changes_X5_put
set_option maxRecDepth 20000 in
theorem ggL_changes_X5_kinds : GoodIn wsL_changes wsX5_kinds := goodIn_ca (goodIn_ca (goodIn_r _ [121, 9, 10, 122, 123, 14, 15, 16, 7, 17, 18, 19, 20, 21, 22, 23, 24, 25, 26, 27, 28, 29, 30, 31, 32, 33, 34, 35, 36, 37, 38, 39, 40, 41, 42, 43, 44, 45, 46, 47, 48, 49, 50, 51, 52, 53, 54, 55, 56, 57, 58, 59, 60, 61, 62, 63, 64, 65, 66, 67, 68, 69, 70, 71, 72, 73, 74, 75, 76, 77, 78, 79, 80, 81, 82, 83, 84, 85, 86, 87, 88, 89, 90, 91, 92, 93, 94, 95, 96, 97, 98, 99, 100, 101, 102, 103, 104, 105, 106, 107, 108, 109, 110, 111, 112, 113, 114, 115, 116, 117, 179, 180, 181, 182, 183, 184, 185, 186, 187, 188, 189, 190, 191, 192, 193, 194, 195, 196, 197, 198] (by decide +kernel) (by decide +kernel)) (goodIn_sub (fun _ h => List.mem_cons_of_mem _ (List.mem_append_left _ (List.mem_append_left _ (List.mem_append_right _ h)))) (by decide +kernel))) (goodIn_sub (fun _ h => List.mem_cons_of_mem _ (List.mem_append_left _ (List.mem_append_right _ h))) (by decide +kernel))
set_option maxRecDepth 20000 in
theorem gL_changes_X5_kinds : GoodIn wsL_changes (wsV RL 14 RX5 yX5_kinds wsX5_kinds) := goodIn_app (goodIn_of _ (by decide +kernel)) ggL_changes_X5_kinds
set_option maxRecDepth 20000 in
theorem ggL_changes_X5_rope : GoodIn wsL_changes wsX5_rope := goodIn_ca (goodIn_ca (goodIn_r _ [127, 9, 10, 128, 14, 15, 16, 7, 17, 18, 19, 20, 21, 22, 23, 24, 25, 26, 27, 28, 29, 30, 31, 32, 33, 34, 35, 36, 37, 38, 39, 40, 41, 42, 43, 44, 45, 46, 47, 48, 49, 50, 51, 52, 53, 54, 55, 56, 57, 58, 59, 60, 61, 62, 63, 64, 65, 66, 67, 68, 69, 70, 71, 72, 73, 74, 75, 76, 77, 78, 79, 80, 81, 82, 83, 84, 85, 86, 87, 88, 89, 90, 91, 92, 93, 94, 95, 96, 97, 98, 99, 100, 101, 102, 103, 104, 105, 106, 107, 108, 109, 110, 111, 112, 113, 114, 115, 116, 117, 179, 180, 181, 182, 183, 184, 185, 186, 187, 188, 189, 190, 191, 192, 193, 194, 195, 196, 197, 198] (by decide +kernel) (by decide +kernel)) (goodIn_sub (fun _ h => List.mem_cons_of_mem _ (List.mem_append_left _ (List.mem_append_left _ (List.mem_append_right _ h)))) (by decide +kernel))) (goodIn_sub (fun _ h => List.mem_cons_of_mem _ (List.mem_append_left _ (List.mem_append_right _ h))) (by decide +kernel))
set_option maxRecDepth 20000 in
theorem gL_changes_X5_rope : GoodIn wsL_changes (wsV RL 18 RX5 yX5_rope wsX5_rope) := goodIn_app (goodIn_of _ (by decide +kernel)) ggL_changes_X5_rope
set_option maxRecDepth 20000 in
theorem ggL_changes_X5_on : GoodIn wsL_changes wsX5_on := goodIn_ca (goodIn_ca (goodIn_ca (goodIn_r _ [132, 133, 134, 9, 10, 135, 14, 15, 16, 7, 17, 18, 19, 20, 21, 22, 23, 24, 25, 136, 137, 138, 49, 139, 58, 26, 27, 28, 29, 30, 31, 32, 33, 34, 35, 36, 37, 38, 39, 40, 41, 42, 43, 44, 45, 46, 47, 48, 50, 51, 52, 53, 54, 55, 56, 57, 59, 60, 140, 141, 142, 143, 61, 62, 63, 64, 65, 66, 67, 68, 69, 70, 71, 72, 73, 74, 75, 76, 77, 78, 79, 80, 81, 82, 83, 84, 85, 86, 87, 88, 89, 90, 91, 92, 93, 94, 95, 96, 97, 98, 99, 100, 101, 102, 103, 104, 105, 106, 107, 108, 109, 110, 111, 112, 113, 114, 115, 116, 117, 179, 180, 181, 182, 183, 184, 185, 186, 187, 188, 189, 190, 191, 192, 193, 194, 195, 196, 197, 198] (by decide +kernel) (by decide +kernel)) (goodIn_sub (fun _ h => List.mem_cons_of_mem _ (List.mem_append_right _ h)) (by decide +kernel))) (goodIn_sub (fun _ h => List.mem_cons_of_mem _ (List.mem_append_left _ (List.mem_append_left _ (List.mem_append_right _ h)))) (by decide +kernel))) (goodIn_sub (fun _ h => List.mem_cons_of_mem _ (List.mem_append_left _ (List.mem_append_right _ h))) (by decide +kernel))
set_option maxRecDepth 20000 in
theorem gL_changes_X5_on : GoodIn wsL_changes (wsV RL 22 RX5 yX5_on wsX5_on) := goodIn_app (goodIn_of _ (by decide +kernel)) ggL_changes_X5_on
set_option maxRecDepth 20000 in
theorem ggL_changes_X5_off : GoodIn wsL_changes wsX5_off := goodIn_ca (goodIn_r _ [147, 9, 10, 135, 14, 15, 16, 7, 17, 18, 19, 20, 148, 149, 150, 151, 152, 153, 49, 154, 58, 26, 27, 28, 29, 30, 31, 32, 33, 34, 35, 36, 37, 38, 39, 40, 41, 42, 43, 44, 45, 46, 47, 48, 50, 51, 52, 53, 54, 55, 56, 57, 59, 60, 155, 156, 157, 158, 159, 61, 62, 63, 64, 65, 66, 67, 68, 69, 70, 71, 72, 73, 74, 75, 76, 77, 78, 79, 80, 81, 82, 83, 84, 85, 86, 87, 88, 89, 90, 91, 92, 93, 94, 95, 96, 97, 98, 99, 100, 101, 102, 103, 104, 105, 106, 107, 108, 109, 110, 111, 112, 113, 114, 115, 116, 117, 179, 180, 181, 182, 183, 184, 185, 186, 187, 188, 189, 190, 191, 192, 193, 194, 195, 196, 197, 198] (by decide +kernel) (by decide +kernel)) (goodIn_sub (fun _ h => List.mem_cons_of_mem _ (List.mem_append_left _ (List.mem_append_left _ (List.mem_append_right _ h)))) (by decide +kernel))
set_option maxRecDepth 20000 in
theorem gL_changes_X5_off : GoodIn wsL_changes (wsV RL 25 RX5 yX5_off wsX5_off) := goodIn_app (goodIn_of _ (by decide +kernel)) ggL_changes_X5_off
set_option maxRecDepth 20000 in
theorem ggL_changes_X5_climb : GoodIn wsL_changes wsX5_climb := goodIn_ca (goodIn_ca (goodIn_r _ [163, 9, 10, 14, 15, 16, 7, 17, 18, 19, 20, 148, 149, 150, 151, 152, 153, 49, 154, 58, 21, 22, 23, 24, 25, 26, 27, 28, 29, 30, 31, 32, 33, 34, 35, 36, 37, 38, 39, 40, 41, 42, 43, 44, 45, 46, 47, 48, 50, 51, 52, 53, 54, 55, 56, 57, 59, 60, 164, 165, 166, 167, 168, 169, 170, 171, 172, 173, 174, 159, 175, 176, 177, 178, 66, 67, 68, 69, 70, 71, 72, 73, 74, 75, 76, 77, 78, 79, 80, 81, 82, 83, 84, 85, 86, 87, 88, 89, 90, 91, 92, 93, 94, 95, 96, 97, 98, 99, 100, 101, 102, 103, 104, 105, 106, 107, 108, 109, 110, 111, 112, 65, 113, 114, 115, 116, 117, 179, 180, 181, 182, 193, 194, 195, 183, 184, 185, 186, 187, 188, 189, 190, 191, 192, 196, 197, 198] (by decide +kernel) (by decide +kernel)) (goodIn_sub (fun _ h => List.mem_cons_of_mem _ (List.mem_append_left _ (List.mem_append_left _ (List.mem_append_right _ h)))) (by decide +kernel))) (goodIn_sub (fun _ h => List.mem_cons_of_mem _ (List.mem_append_left _ (List.mem_append_right _ h))) (by decide +kernel))
set_option maxRecDepth 20000 in
theorem gL_changes_X5_climb : GoodIn wsL_changes (wsV RL 28 RX5 yX5_climb wsX5_climb) := goodIn_app (goodIn_of _ (by decide +kernel)) ggL_changes_X5_climb
theorem dL_changes_0 : decode cL_changes 0 = .ok (.aload 5, 2) := by decide +kernel
theorem dL_changes_2 : decode cL_changes 2 = .ok (.iconst 0, 1) := by decide +kernel
theorem dL_changes_3 : decode cL_changes 3 = .ok (.iload_n 1, 1) := by decide +kernel
theorem dL_changes_4 : decode cL_changes 4 = .ok (.ifCond .ne 19, 3) := by decide +kernel
theorem dL_changes_7 : decode cL_changes 7 = .ok (.aload_n 0, 1) := by decide +kernel
theorem dL_changes_8 : decode cL_changes 8 = .ok (.iload_n 2, 1) := by decide +kernel
theorem dL_changes_9 : decode cL_changes 9 = .ok (.iload_n 3, 1) := by decide +kernel
theorem dL_changes_10 : decode cL_changes 10 = .ok (.iload 4, 2) := by decide +kernel
theorem dL_changes_12 : decode cL_changes 12 = .ok (.iconst 5, 1) := by decide +kernel
theorem dL_changes_13 : decode cL_changes 13 = .ok (.iload_n 3, 1) := by decide +kernel
theorem dL_changes_14 : decode cL_changes 14 = .ok (.iconst 2, 1) := by decide +kernel
theorem dL_changes_15 : decode cL_changes 15 = .ok (.idiv, 1) := by decide +kernel
theorem dL_changes_16 : decode cL_changes 16 = .ok (.iadd, 1) := by decide +kernel
theorem dL_changes_17 : decode cL_changes 17 = .ok (.invokevirtual 8, 3) := by decide +kernel
theorem dL_changes_20 : decode cL_changes 20 = .ok (.goto 69, 3) := by decide +kernel
theorem dL_changes_23 : decode cL_changes 23 = .ok (.iload_n 1, 1) := by decide +kernel
theorem dL_changes_24 : decode cL_changes 24 = .ok (.iconst 1, 1) := by decide +kernel
theorem dL_changes_25 : decode cL_changes 25 = .ok (.if_icmp .ne 14, 3) := by decide +kernel
theorem dL_changes_28 : decode cL_changes 28 = .ok (.aload_n 0, 1) := by decide +kernel
theorem dL_changes_29 : decode cL_changes 29 = .ok (.iload_n 2, 1) := by decide +kernel
theorem dL_changes_30 : decode cL_changes 30 = .ok (.iload_n 3, 1) := by decide +kernel
theorem dL_changes_31 : decode cL_changes 31 = .ok (.iload 4, 2) := by decide +kernel
theorem dL_changes_33 : decode cL_changes 33 = .ok (.invokevirtual 14, 3) := by decide +kernel
theorem dL_changes_36 : decode cL_changes 36 = .ok (.goto 53, 3) := by decide +kernel
theorem dL_changes_39 : decode cL_changes 39 = .ok (.iload_n 1, 1) := by decide +kernel
theorem dL_changes_40 : decode cL_changes 40 = .ok (.iconst 2, 1) := by decide +kernel
theorem dL_changes_41 : decode cL_changes 41 = .ok (.if_icmp .ne 12, 3) := by decide +kernel
theorem dL_changes_44 : decode cL_changes 44 = .ok (.aload_n 0, 1) := by decide +kernel
theorem dL_changes_45 : decode cL_changes 45 = .ok (.iload_n 2, 1) := by decide +kernel
theorem dL_changes_46 : decode cL_changes 46 = .ok (.iload_n 3, 1) := by decide +kernel
theorem dL_changes_47 : decode cL_changes 47 = .ok (.invokevirtual 18, 3) := by decide +kernel
theorem dL_changes_50 : decode cL_changes 50 = .ok (.goto 39, 3) := by decide +kernel
theorem dL_changes_53 : decode cL_changes 53 = .ok (.iload_n 1, 1) := by decide +kernel
theorem dL_changes_54 : decode cL_changes 54 = .ok (.iconst 3, 1) := by decide +kernel
theorem dL_changes_55 : decode cL_changes 55 = .ok (.if_icmp .ne 12, 3) := by decide +kernel
theorem dL_changes_58 : decode cL_changes 58 = .ok (.aload_n 0, 1) := by decide +kernel
theorem dL_changes_59 : decode cL_changes 59 = .ok (.iload_n 2, 1) := by decide +kernel
theorem dL_changes_60 : decode cL_changes 60 = .ok (.iload_n 3, 1) := by decide +kernel
theorem dL_changes_61 : decode cL_changes 61 = .ok (.invokevirtual 22, 3) := by decide +kernel
theorem dL_changes_64 : decode cL_changes 64 = .ok (.goto 25, 3) := by decide +kernel
theorem dL_changes_67 : decode cL_changes 67 = .ok (.iload_n 1, 1) := by decide +kernel
theorem dL_changes_68 : decode cL_changes 68 = .ok (.iconst 4, 1) := by decide +kernel
theorem dL_changes_69 : decode cL_changes 69 = .ok (.if_icmp .ne 12, 3) := by decide +kernel
theorem dL_changes_72 : decode cL_changes 72 = .ok (.aload_n 0, 1) := by decide +kernel
theorem dL_changes_73 : decode cL_changes 73 = .ok (.iload_n 2, 1) := by decide +kernel
theorem dL_changes_74 : decode cL_changes 74 = .ok (.iload_n 3, 1) := by decide +kernel
theorem dL_changes_75 : decode cL_changes 75 = .ok (.invokevirtual 25, 3) := by decide +kernel
theorem dL_changes_78 : decode cL_changes 78 = .ok (.goto 11, 3) := by decide +kernel
theorem dL_changes_81 : decode cL_changes 81 = .ok (.aload_n 0, 1) := by decide +kernel
theorem dL_changes_82 : decode cL_changes 82 = .ok (.iload_n 2, 1) := by decide +kernel
theorem dL_changes_83 : decode cL_changes 83 = .ok (.iload 4, 2) := by decide +kernel
theorem dL_changes_85 : decode cL_changes 85 = .ok (.iload_n 3, 1) := by decide +kernel
theorem dL_changes_86 : decode cL_changes 86 = .ok (.invokevirtual 28, 3) := by decide +kernel
theorem dL_changes_89 : decode cL_changes 89 = .ok (.iastore, 1) := by decide +kernel
theorem dL_changes_90 : decode cL_changes 90 = .ok (.goto 15, 3) := by decide +kernel
theorem dL_changes_93 : decode cL_changes 93 = .ok (.astore 6, 2) := by decide +kernel
theorem dL_changes_95 : decode cL_changes 95 = .ok (.iconst 1, 1) := by decide +kernel
theorem dL_changes_96 : decode cL_changes 96 = .ok (.ireturn, 1) := by decide +kernel
theorem dL_changes_97 : decode cL_changes 97 = .ok (.astore 6, 2) := by decide +kernel
theorem dL_changes_99 : decode cL_changes 99 = .ok (.iconst 2, 1) := by decide +kernel
theorem dL_changes_100 : decode cL_changes 100 = .ok (.ireturn, 1) := by decide +kernel
theorem dL_changes_101 : decode cL_changes 101 = .ok (.astore 6, 2) := by decide +kernel
theorem dL_changes_103 : decode cL_changes 103 = .ok (.iconst 3, 1) := by decide +kernel
theorem dL_changes_104 : decode cL_changes 104 = .ok (.ireturn, 1) := by decide +kernel
theorem dL_changes_105 : decode cL_changes 105 = .ok (.iconst 0, 1) := by decide +kernel
theorem dL_changes_106 : decode cL_changes 106 = .ok (.ireturn, 1) := by decide +kernel
set_option maxRecDepth 20000 in
theorem ggL_act_L_low : GoodIn wsL_act wsL_low := goodIn_r _ [4, 5] (by decide +kernel) (by decide +kernel)
set_option maxRecDepth 20000 in
theorem gL_act_L_low : GoodIn wsL_act (va_wsS RL 37 yL_low wsL_low) := goodIn_app (goodIn_of _ (by decide +kernel)) ggL_act_L_low
set_option maxRecDepth 20000 in
theorem ggL_act_L_changes : GoodIn wsL_act wsL_changes := goodIn_ca (goodIn_ca (goodIn_ca (goodIn_r _ [8, 9, 10, 11, 12, 13, 14, 15, 16, 17, 18, 19, 20, 21, 22, 23, 24, 25, 26, 27, 28, 29, 30, 31, 32, 33, 34, 35, 36, 37, 38, 39, 40, 41, 42, 43, 44, 45, 46, 47, 48, 49, 50, 51, 52, 53, 54, 55, 56, 57, 58, 59, 60, 61, 62, 63, 64, 65, 66, 67, 68, 69, 70, 71, 72, 73, 74, 75, 76, 77, 78, 79, 80, 81, 82, 83, 84, 85, 86, 87, 88, 89, 90, 91, 92, 93, 94, 95, 96, 97, 98, 99, 100, 101, 102, 103, 104, 105, 106, 107, 108, 109, 110, 111, 112, 113, 114, 115, 116, 117, 118, 119, 120, 121, 122, 123, 124, 125, 126, 127, 128, 129, 130, 131, 132, 133, 134, 135, 136, 137, 138, 139, 140, 141, 142, 143, 144, 145, 146, 147, 148, 149, 150, 151, 152, 153, 154, 155, 156, 157, 158, 159, 160, 161, 162, 163, 164, 165, 166, 167, 168, 169, 170, 171, 172, 173, 174, 175, 176, 177, 178, 179, 180, 181, 182, 183, 184, 185, 186, 187, 188, 189, 190, 191, 192, 193, 194, 195, 196, 197, 198, 199, 200, 201, 202, 203, 204, 205, 206] (by decide +kernel) (by decide +kernel)) (goodIn_sub (fun _ h => List.mem_cons_of_mem _ (List.mem_append_left _ (List.mem_append_left _ (List.mem_append_right _ h)))) (by decide +kernel))) (goodIn_sub (fun _ h => List.mem_cons_of_mem _ (List.mem_append_left _ (List.mem_append_right _ h))) (by decide +kernel))) (goodIn_sub (fun _ h => List.mem_cons_of_mem _ (List.mem_append_right _ h)) (by decide +kernel))
set_option maxRecDepth 20000 in
theorem gL_act_L_changes : GoodIn wsL_act (va_wsS RL 42 yL_changes wsL_changes) := goodIn_app (goodIn_of _ (by decide +kernel)) ggL_act_L_changes
theorem dL_act_0 : decode cL_act 0 = .ok (.iload_n 1, 1) := by decide +kernel
theorem dL_act_1 : decode cL_act 1 = .ok (.bipush 16, 2) := by decide +kernel
theorem dL_act_3 : decode cL_act 3 = .ok (.invokestatic 37, 3) := by decide +kernel
theorem dL_act_6 : decode cL_act 6 = .ok (.istore_n 3, 1) := by decide +kernel
theorem dL_act_7 : decode cL_act 7 = .ok (.iload_n 1, 1) := by decide +kernel
theorem dL_act_8 : decode cL_act 8 = .ok (.iconst 4, 1) := by decide +kernel
theorem dL_act_9 : decode cL_act 9 = .ok (.ishr, 1) := by decide +kernel
theorem dL_act_10 : decode cL_act 10 = .ok (.istore 4, 2) := by decide +kernel
theorem dL_act_12 : decode cL_act 12 = .ok (.iload 4, 2) := by decide +kernel
theorem dL_act_14 : decode cL_act 14 = .ok (.iload_n 1, 1) := by decide +kernel
theorem dL_act_15 : decode cL_act 15 = .ok (.bipush 23, 2) := by decide +kernel
theorem dL_act_17 : decode cL_act 17 = .ok (.ishr, 1) := by decide +kernel
theorem dL_act_18 : decode cL_act 18 = .ok (.bipush 6, 2) := by decide +kernel
theorem dL_act_20 : decode cL_act 20 = .ok (.invokestatic 37, 3) := by decide +kernel
theorem dL_act_23 : decode cL_act 23 = .ok (.ifCond .ne 7, 3) := by decide +kernel
theorem dL_act_26 : decode cL_act 26 = .ok (.iconst 5, 1) := by decide +kernel
theorem dL_act_27 : decode cL_act 27 = .ok (.goto 4, 3) := by decide +kernel
theorem dL_act_30 : decode cL_act 30 = .ok (.iconst 3, 1) := by decide +kernel
theorem dL_act_31 : decode cL_act 31 = .ok (.invokestatic 37, 3) := by decide +kernel
theorem dL_act_34 : decode cL_act 34 = .ok (.istore 5, 2) := by decide +kernel
theorem dL_act_36 : decode cL_act 36 = .ok (.iload_n 1, 1) := by decide +kernel
theorem dL_act_37 : decode cL_act 37 = .ok (.bipush 20, 2) := by decide +kernel
theorem dL_act_39 : decode cL_act 39 = .ok (.ishr, 1) := by decide +kernel
theorem dL_act_40 : decode cL_act 40 = .ok (.iconst 5, 1) := by decide +kernel
theorem dL_act_41 : decode cL_act 41 = .ok (.invokestatic 37, 3) := by decide +kernel
theorem dL_act_44 : decode cL_act 44 = .ok (.ifCond .le 7, 3) := by decide +kernel
theorem dL_act_47 : decode cL_act 47 = .ok (.iconst 1, 1) := by decide +kernel
theorem dL_act_48 : decode cL_act 48 = .ok (.goto 4, 3) := by decide +kernel
theorem dL_act_51 : decode cL_act 51 = .ok (.iconst 0, 1) := by decide +kernel
theorem dL_act_52 : decode cL_act 52 = .ok (.istore 6, 2) := by decide +kernel
theorem dL_act_54 : decode cL_act 54 = .ok (.iload_n 3, 1) := by decide +kernel
theorem dL_act_55 : decode cL_act 55 = .ok (.iconst 5, 1) := by decide +kernel
theorem dL_act_56 : decode cL_act 56 = .ok (.if_icmp .ge 35, 3) := by decide +kernel
theorem dL_act_59 : decode cL_act 59 = .ok (.aload_n 0, 1) := by decide +kernel
theorem dL_act_60 : decode cL_act 60 = .ok (.iconst 3, 1) := by decide +kernel
theorem dL_act_61 : decode cL_act 61 = .ok (.iload 5, 2) := by decide +kernel
theorem dL_act_63 : decode cL_act 63 = .ok (.iload 6, 2) := by decide +kernel
theorem dL_act_65 : decode cL_act 65 = .ok (.ifCond .eq 8, 3) := by decide +kernel
theorem dL_act_68 : decode cL_act 68 = .ok (.bipush 20, 2) := by decide +kernel
theorem dL_act_70 : decode cL_act 70 = .ok (.goto 4, 3) := by decide +kernel
theorem dL_act_73 : decode cL_act 73 = .ok (.iconst 0, 1) := by decide +kernel
theorem dL_act_74 : decode cL_act 74 = .ok (.iload 4, 2) := by decide +kernel
theorem dL_act_76 : decode cL_act 76 = .ok (.iconst 3, 1) := by decide +kernel
theorem dL_act_77 : decode cL_act 77 = .ok (.ishr, 1) := by decide +kernel
theorem dL_act_78 : decode cL_act 78 = .ok (.sipush 131, 3) := by decide +kernel
theorem dL_act_81 : decode cL_act 81 = .ok (.invokestatic 37, 3) := by decide +kernel
theorem dL_act_84 : decode cL_act 84 = .ok (.iadd, 1) := by decide +kernel
theorem dL_act_85 : decode cL_act 85 = .ok (.iconst 0, 1) := by decide +kernel
theorem dL_act_86 : decode cL_act 86 = .ok (.aload_n 2, 1) := by decide +kernel
theorem dL_act_87 : decode cL_act 87 = .ok (.invokestatic 42, 3) := by decide +kernel
theorem dL_act_90 : decode cL_act 90 = .ok (.ireturn, 1) := by decide +kernel
theorem dL_act_91 : decode cL_act 91 = .ok (.iload_n 3, 1) := by decide +kernel
theorem dL_act_92 : decode cL_act 92 = .ok (.bipush 10, 2) := by decide +kernel
theorem dL_act_94 : decode cL_act 94 = .ok (.if_icmp .ge 39, 3) := by decide +kernel
theorem dL_act_97 : decode cL_act 97 = .ok (.aload_n 0, 1) := by decide +kernel
theorem dL_act_98 : decode cL_act 98 = .ok (.iconst 5, 1) := by decide +kernel
theorem dL_act_99 : decode cL_act 99 = .ok (.iload 5, 2) := by decide +kernel
theorem dL_act_101 : decode cL_act 101 = .ok (.iload 4, 2) := by decide +kernel
theorem dL_act_103 : decode cL_act 103 = .ok (.iconst 3, 1) := by decide +kernel
theorem dL_act_104 : decode cL_act 104 = .ok (.ishr, 1) := by decide +kernel
theorem dL_act_105 : decode cL_act 105 = .ok (.iload 6, 2) := by decide +kernel
theorem dL_act_107 : decode cL_act 107 = .ok (.ifCond .eq 8, 3) := by decide +kernel
theorem dL_act_110 : decode cL_act 110 = .ok (.bipush 11, 2) := by decide +kernel
theorem dL_act_112 : decode cL_act 112 = .ok (.goto 5, 3) := by decide +kernel
theorem dL_act_115 : decode cL_act 115 = .ok (.bipush 13, 2) := by decide +kernel
theorem dL_act_117 : decode cL_act 117 = .ok (.invokestatic 37, 3) := by decide +kernel
theorem dL_act_120 : decode cL_act 120 = .ok (.iload 4, 2) := by decide +kernel
theorem dL_act_122 : decode cL_act 122 = .ok (.iconst 5, 1) := by decide +kernel
theorem dL_act_123 : decode cL_act 123 = .ok (.ishr, 1) := by decide +kernel
theorem dL_act_124 : decode cL_act 124 = .ok (.iconst 3, 1) := by decide +kernel
theorem dL_act_125 : decode cL_act 125 = .ok (.invokestatic 37, 3) := by decide +kernel
theorem dL_act_128 : decode cL_act 128 = .ok (.aload_n 2, 1) := by decide +kernel
theorem dL_act_129 : decode cL_act 129 = .ok (.invokestatic 42, 3) := by decide +kernel
theorem dL_act_132 : decode cL_act 132 = .ok (.ireturn, 1) := by decide +kernel
theorem dL_act_133 : decode cL_act 133 = .ok (.iload_n 3, 1) := by decide +kernel
theorem dL_act_134 : decode cL_act 134 = .ok (.bipush 10, 2) := by decide +kernel
theorem dL_act_136 : decode cL_act 136 = .ok (.if_icmp .ne 21, 3) := by decide +kernel
theorem dL_act_139 : decode cL_act 139 = .ok (.aload_n 0, 1) := by decide +kernel
theorem dL_act_140 : decode cL_act 140 = .ok (.iconst 4, 1) := by decide +kernel
theorem dL_act_141 : decode cL_act 141 = .ok (.iload 5, 2) := by decide +kernel
theorem dL_act_143 : decode cL_act 143 = .ok (.iload 4, 2) := by decide +kernel
theorem dL_act_145 : decode cL_act 145 = .ok (.iconst 3, 1) := by decide +kernel
theorem dL_act_146 : decode cL_act 146 = .ok (.ishr, 1) := by decide +kernel
theorem dL_act_147 : decode cL_act 147 = .ok (.iconst 3, 1) := by decide +kernel
theorem dL_act_148 : decode cL_act 148 = .ok (.invokestatic 37, 3) := by decide +kernel
theorem dL_act_151 : decode cL_act 151 = .ok (.iconst 0, 1) := by decide +kernel
theorem dL_act_152 : decode cL_act 152 = .ok (.aload_n 2, 1) := by decide +kernel
theorem dL_act_153 : decode cL_act 153 = .ok (.invokestatic 42, 3) := by decide +kernel
theorem dL_act_156 : decode cL_act 156 = .ok (.ireturn, 1) := by decide +kernel
theorem dL_act_157 : decode cL_act 157 = .ok (.iload_n 3, 1) := by decide +kernel
theorem dL_act_158 : decode cL_act 158 = .ok (.bipush 13, 2) := by decide +kernel
theorem dL_act_160 : decode cL_act 160 = .ok (.if_icmp .ge 55, 3) := by decide +kernel
theorem dL_act_163 : decode cL_act 163 = .ok (.aload_n 0, 1) := by decide +kernel
theorem dL_act_164 : decode cL_act 164 = .ok (.iconst 0, 1) := by decide +kernel
theorem dL_act_165 : decode cL_act 165 = .ok (.iload 5, 2) := by decide +kernel
theorem dL_act_167 : decode cL_act 167 = .ok (.iload 6, 2) := by decide +kernel
theorem dL_act_169 : decode cL_act 169 = .ok (.ifCond .eq 8, 3) := by decide +kernel
theorem dL_act_172 : decode cL_act 172 = .ok (.bipush 10, 2) := by decide +kernel
theorem dL_act_174 : decode cL_act 174 = .ok (.goto 4, 3) := by decide +kernel
theorem dL_act_177 : decode cL_act 177 = .ok (.iconst 0, 1) := by decide +kernel
theorem dL_act_178 : decode cL_act 178 = .ok (.iload 4, 2) := by decide +kernel
theorem dL_act_180 : decode cL_act 180 = .ok (.iconst 3, 1) := by decide +kernel
theorem dL_act_181 : decode cL_act 181 = .ok (.ishr, 1) := by decide +kernel
theorem dL_act_182 : decode cL_act 182 = .ok (.bipush 91, 2) := by decide +kernel
theorem dL_act_184 : decode cL_act 184 = .ok (.invokestatic 37, 3) := by decide +kernel
theorem dL_act_187 : decode cL_act 187 = .ok (.iadd, 1) := by decide +kernel
theorem dL_act_188 : decode cL_act 188 = .ok (.iload 6, 2) := by decide +kernel
theorem dL_act_190 : decode cL_act 190 = .ok (.ifCond .eq 8, 3) := by decide +kernel
theorem dL_act_193 : decode cL_act 193 = .ok (.bipush 50, 2) := by decide +kernel
theorem dL_act_195 : decode cL_act 195 = .ok (.goto 4, 3) := by decide +kernel
theorem dL_act_198 : decode cL_act 198 = .ok (.iconst 0, 1) := by decide +kernel
theorem dL_act_199 : decode cL_act 199 = .ok (.iload 4, 2) := by decide +kernel
theorem dL_act_201 : decode cL_act 201 = .ok (.iconst 5, 1) := by decide +kernel
theorem dL_act_202 : decode cL_act 202 = .ok (.ishr, 1) := by decide +kernel
theorem dL_act_203 : decode cL_act 203 = .ok (.sipush 251, 3) := by decide +kernel
theorem dL_act_206 : decode cL_act 206 = .ok (.invokestatic 37, 3) := by decide +kernel
theorem dL_act_209 : decode cL_act 209 = .ok (.iadd, 1) := by decide +kernel
theorem dL_act_210 : decode cL_act 210 = .ok (.aload_n 2, 1) := by decide +kernel
theorem dL_act_211 : decode cL_act 211 = .ok (.invokestatic 42, 3) := by decide +kernel
theorem dL_act_214 : decode cL_act 214 = .ok (.ireturn, 1) := by decide +kernel
theorem dL_act_215 : decode cL_act 215 = .ok (.iload_n 3, 1) := by decide +kernel
theorem dL_act_216 : decode cL_act 216 = .ok (.bipush 13, 2) := by decide +kernel
theorem dL_act_218 : decode cL_act 218 = .ok (.if_icmp .ne 39, 3) := by decide +kernel
theorem dL_act_221 : decode cL_act 221 = .ok (.aload_n 0, 1) := by decide +kernel
theorem dL_act_222 : decode cL_act 222 = .ok (.iconst 1, 1) := by decide +kernel
theorem dL_act_223 : decode cL_act 223 = .ok (.iload 5, 2) := by decide +kernel
theorem dL_act_225 : decode cL_act 225 = .ok (.iload 4, 2) := by decide +kernel
theorem dL_act_227 : decode cL_act 227 = .ok (.iconst 3, 1) := by decide +kernel
theorem dL_act_228 : decode cL_act 228 = .ok (.ishr, 1) := by decide +kernel
theorem dL_act_229 : decode cL_act 229 = .ok (.iload 6, 2) := by decide +kernel
theorem dL_act_231 : decode cL_act 231 = .ok (.ifCond .eq 7, 3) := by decide +kernel
theorem dL_act_234 : decode cL_act 234 = .ok (.iconst 4, 1) := by decide +kernel
theorem dL_act_235 : decode cL_act 235 = .ok (.goto 4, 3) := by decide +kernel
theorem dL_act_238 : decode cL_act 238 = .ok (.iconst 5, 1) := by decide +kernel
theorem dL_act_239 : decode cL_act 239 = .ok (.invokestatic 37, 3) := by decide +kernel
theorem dL_act_242 : decode cL_act 242 = .ok (.iload 4, 2) := by decide +kernel
theorem dL_act_244 : decode cL_act 244 = .ok (.iconst 5, 1) := by decide +kernel
theorem dL_act_245 : decode cL_act 245 = .ok (.ishr, 1) := by decide +kernel
theorem dL_act_246 : decode cL_act 246 = .ok (.iconst 4, 1) := by decide +kernel
theorem dL_act_247 : decode cL_act 247 = .ok (.invokestatic 37, 3) := by decide +kernel
theorem dL_act_250 : decode cL_act 250 = .ok (.aload_n 2, 1) := by decide +kernel
theorem dL_act_251 : decode cL_act 251 = .ok (.invokestatic 42, 3) := by decide +kernel
theorem dL_act_254 : decode cL_act 254 = .ok (.goto 32, 3) := by decide +kernel
theorem dL_act_257 : decode cL_act 257 = .ok (.aload_n 0, 1) := by decide +kernel
theorem dL_act_258 : decode cL_act 258 = .ok (.iconst 2, 1) := by decide +kernel
theorem dL_act_259 : decode cL_act 259 = .ok (.iload 5, 2) := by decide +kernel
theorem dL_act_261 : decode cL_act 261 = .ok (.iload 4, 2) := by decide +kernel
theorem dL_act_263 : decode cL_act 263 = .ok (.iconst 3, 1) := by decide +kernel
theorem dL_act_264 : decode cL_act 264 = .ok (.ishr, 1) := by decide +kernel
theorem dL_act_265 : decode cL_act 265 = .ok (.iload 6, 2) := by decide +kernel
theorem dL_act_267 : decode cL_act 267 = .ok (.ifCond .eq 8, 3) := by decide +kernel
theorem dL_act_270 : decode cL_act 270 = .ok (.bipush 60, 2) := by decide +kernel
theorem dL_act_272 : decode cL_act 272 = .ok (.goto 6, 3) := by decide +kernel
theorem dL_act_275 : decode cL_act 275 = .ok (.sipush 220, 3) := by decide +kernel
theorem dL_act_278 : decode cL_act 278 = .ok (.invokestatic 37, 3) := by decide +kernel
theorem dL_act_281 : decode cL_act 281 = .ok (.iconst 0, 1) := by decide +kernel
theorem dL_act_282 : decode cL_act 282 = .ok (.aload_n 2, 1) := by decide +kernel
theorem dL_act_283 : decode cL_act 283 = .ok (.invokestatic 42, 3) := by decide +kernel
theorem dL_act_286 : decode cL_act 286 = .ok (.ireturn, 1) := by decide +kernel
set_option maxRecDepth 20000 in
theorem ggL_areAlike_X5_count : GoodIn wsL_areAlike wsX5_count := goodIn_ca (goodIn_r _ [5, 6, 7, 8, 9, 10, 11, 12, 13, 14, 15, 16, 17, 18, 19, 20, 21, 22, 23, 24, 25, 26, 27, 28, 29, 30, 31, 32, 33, 34, 35, 36, 37, 38, 39, 40, 41, 42, 43, 44, 45, 46, 47, 48, 49, 50, 51, 52, 53, 54, 55, 56, 57, 58, 59, 60, 61, 62, 63, 64, 65, 66, 67, 68, 69, 70, 71, 72, 73, 74, 75, 76, 77, 78, 79, 80, 81, 125, 126, 127, 128, 129, 130, 131, 132, 133, 134, 135, 136, 137, 138, 139, 140, 141, 142, 143, 144] (by decide +kernel) (by decide +kernel)) (goodIn_sub (fun _ h => List.mem_cons_of_mem _ (List.mem_append_left _ (List.mem_append_right _ h))) (by decide +kernel))
set_option maxRecDepth 20000 in
theorem gL_areAlike_X5_count : GoodIn wsL_areAlike (wsV RL 46 RX5 yX5_count wsX5_count) := goodIn_app (goodIn_of _ (by decide +kernel)) ggL_areAlike_X5_count
set_option maxRecDepth 20000 in
theorem ggL_areAlike_X5_ladder : GoodIn wsL_areAlike wsX5_ladder := goodIn_ca (goodIn_ca (goodIn_r _ [85, 6, 7, 86, 87, 88, 89, 90, 91, 92, 93, 94, 95, 96, 4, 97, 98, 99, 8, 100, 101, 65, 66, 22, 67, 47, 49, 102, 44, 45, 46, 48, 38, 103, 20, 21, 23, 24, 25, 26, 27, 28, 29, 30, 31, 32, 33, 34, 35, 36, 37, 39, 40, 41, 42, 43, 50, 51, 52, 53, 54, 55, 56, 57, 58, 59, 60, 61, 62, 63, 64, 68, 69, 70, 71, 135, 136, 137, 138, 139, 140, 141, 142, 143, 144, 125, 126, 127, 128, 129, 130, 131] (by decide +kernel) (by decide +kernel)) (goodIn_sub (fun _ h => List.mem_cons_of_mem _ (List.mem_append_left _ (List.mem_append_right _ h))) (by decide +kernel))) (goodIn_sub (fun _ h => List.mem_cons_of_mem _ (List.mem_append_right _ h)) (by decide +kernel))
set_option maxRecDepth 20000 in
theorem gL_areAlike_X5_ladder : GoodIn wsL_areAlike (wsV RL 50 RX5 yX5_ladder wsX5_ladder) := goodIn_app (goodIn_of _ (by decide +kernel)) ggL_areAlike_X5_ladder
set_option maxRecDepth 20000 in
theorem ggL_areAlike_X5_person : GoodIn wsL_areAlike wsX5_person := goodIn_ca (goodIn_ca (goodIn_r _ [107, 6, 7, 94, 95, 96, 4, 97, 98, 99, 8, 100, 108, 109, 110, 111, 112, 113, 22, 114, 115, 116, 117, 118, 119, 49, 120, 121, 122, 123, 124, 48, 125, 126, 127, 128, 129, 130, 131, 135, 136, 137, 138, 139, 140, 141, 142, 143, 144] (by decide +kernel) (by decide +kernel)) (goodIn_sub (fun _ h => List.mem_cons_of_mem _ (List.mem_append_left _ (List.mem_append_right _ h))) (by decide +kernel))) (goodIn_sub (fun _ h => List.mem_cons_of_mem _ (List.mem_append_right _ h)) (by decide +kernel))
set_option maxRecDepth 20000 in
theorem gL_areAlike_X5_person : GoodIn wsL_areAlike (wsV RL 53 RX5 yX5_person wsX5_person) := goodIn_app (goodIn_of _ (by decide +kernel)) ggL_areAlike_X5_person
theorem dL_areAlike_0 : decode cL_areAlike 0 = .ok (.iconst 1, 1) := by decide +kernel
theorem dL_areAlike_1 : decode cL_areAlike 1 = .ok (.istore_n 2, 1) := by decide +kernel
theorem dL_areAlike_2 : decode cL_areAlike 2 = .ok (.iconst 0, 1) := by decide +kernel
theorem dL_areAlike_3 : decode cL_areAlike 3 = .ok (.istore_n 3, 1) := by decide +kernel
theorem dL_areAlike_4 : decode cL_areAlike 4 = .ok (.iload_n 3, 1) := by decide +kernel
theorem dL_areAlike_5 : decode cL_areAlike 5 = .ok (.iconst 5, 1) := by decide +kernel
theorem dL_areAlike_6 : decode cL_areAlike 6 = .ok (.if_icmp .ge 32, 3) := by decide +kernel
theorem dL_areAlike_9 : decode cL_areAlike 9 = .ok (.iload_n 2, 1) := by decide +kernel
theorem dL_areAlike_10 : decode cL_areAlike 10 = .ok (.ifCond .eq 20, 3) := by decide +kernel
theorem dL_areAlike_13 : decode cL_areAlike 13 = .ok (.aload_n 0, 1) := by decide +kernel
theorem dL_areAlike_14 : decode cL_areAlike 14 = .ok (.iload_n 3, 1) := by decide +kernel
theorem dL_areAlike_15 : decode cL_areAlike 15 = .ok (.invokevirtual 46, 3) := by decide +kernel
theorem dL_areAlike_18 : decode cL_areAlike 18 = .ok (.aload_n 1, 1) := by decide +kernel
theorem dL_areAlike_19 : decode cL_areAlike 19 = .ok (.iload_n 3, 1) := by decide +kernel
theorem dL_areAlike_20 : decode cL_areAlike 20 = .ok (.invokevirtual 46, 3) := by decide +kernel
end
section
theorem dL_areAlike_23 : decode cL_areAlike 23 = .ok (.if_icmp .ne 7, 3) := by decide +kernel
theorem dL_areAlike_26 : decode cL_areAlike 26 = .ok (.iconst 1, 1) := by decide +kernel
theorem dL_areAlike_27 : decode cL_areAlike 27 = .ok (.goto 4, 3) := by decide +kernel
theorem dL_areAlike_30 : decode cL_areAlike 30 = .ok (.iconst 0, 1) := by decide +kernel
theorem dL_areAlike_31 : decode cL_areAlike 31 = .ok (.istore_n 2, 1) := by decide +kernel
theorem dL_areAlike_32 : decode cL_areAlike 32 = .ok (.iinc 3 1, 3) := by decide +kernel
theorem dL_areAlike_35 : decode cL_areAlike 35 = .ok (.goto (-31), 3) := by decide +kernel
theorem dL_areAlike_38 : decode cL_areAlike 38 = .ok (.iconst 0, 1) := by decide +kernel
theorem dL_areAlike_39 : decode cL_areAlike 39 = .ok (.istore_n 3, 1) := by decide +kernel
theorem dL_areAlike_40 : decode cL_areAlike 40 = .ok (.iload_n 3, 1) := by decide +kernel
theorem dL_areAlike_41 : decode cL_areAlike 41 = .ok (.iconst 4, 1) := by decide +kernel
theorem dL_areAlike_42 : decode cL_areAlike 42 = .ok (.if_icmp .ge 121, 3) := by decide +kernel
theorem dL_areAlike_45 : decode cL_areAlike 45 = .ok (.iconst 0, 1) := by decide +kernel
theorem dL_areAlike_46 : decode cL_areAlike 46 = .ok (.istore 4, 2) := by decide +kernel
theorem dL_areAlike_48 : decode cL_areAlike 48 = .ok (.iload 4, 2) := by decide +kernel
theorem dL_areAlike_50 : decode cL_areAlike 50 = .ok (.bipush 10, 2) := by decide +kernel
theorem dL_areAlike_52 : decode cL_areAlike 52 = .ok (.if_icmp .ge 36, 3) := by decide +kernel
theorem dL_areAlike_55 : decode cL_areAlike 55 = .ok (.iload_n 2, 1) := by decide +kernel
theorem dL_areAlike_56 : decode cL_areAlike 56 = .ok (.ifCond .eq 24, 3) := by decide +kernel
theorem dL_areAlike_59 : decode cL_areAlike 59 = .ok (.aload_n 0, 1) := by decide +kernel
theorem dL_areAlike_60 : decode cL_areAlike 60 = .ok (.iload_n 3, 1) := by decide +kernel
theorem dL_areAlike_61 : decode cL_areAlike 61 = .ok (.iload 4, 2) := by decide +kernel
theorem dL_areAlike_63 : decode cL_areAlike 63 = .ok (.invokevirtual 50, 3) := by decide +kernel
theorem dL_areAlike_66 : decode cL_areAlike 66 = .ok (.aload_n 1, 1) := by decide +kernel
theorem dL_areAlike_67 : decode cL_areAlike 67 = .ok (.iload_n 3, 1) := by decide +kernel
theorem dL_areAlike_68 : decode cL_areAlike 68 = .ok (.iload 4, 2) := by decide +kernel
theorem dL_areAlike_70 : decode cL_areAlike 70 = .ok (.invokevirtual 50, 3) := by decide +kernel
theorem dL_areAlike_73 : decode cL_areAlike 73 = .ok (.if_icmp .ne 7, 3) := by decide +kernel
theorem dL_areAlike_76 : decode cL_areAlike 76 = .ok (.iconst 1, 1) := by decide +kernel
theorem dL_areAlike_77 : decode cL_areAlike 77 = .ok (.goto 4, 3) := by decide +kernel
theorem dL_areAlike_80 : decode cL_areAlike 80 = .ok (.iconst 0, 1) := by decide +kernel
theorem dL_areAlike_81 : decode cL_areAlike 81 = .ok (.istore_n 2, 1) := by decide +kernel
theorem dL_areAlike_82 : decode cL_areAlike 82 = .ok (.iinc 4 1, 3) := by decide +kernel
theorem dL_areAlike_85 : decode cL_areAlike 85 = .ok (.goto (-37), 3) := by decide +kernel
theorem dL_areAlike_88 : decode cL_areAlike 88 = .ok (.iconst 0, 1) := by decide +kernel
theorem dL_areAlike_89 : decode cL_areAlike 89 = .ok (.istore 4, 2) := by decide +kernel
theorem dL_areAlike_91 : decode cL_areAlike 91 = .ok (.iload 4, 2) := by decide +kernel
theorem dL_areAlike_93 : decode cL_areAlike 93 = .ok (.aload_n 0, 1) := by decide +kernel
theorem dL_areAlike_94 : decode cL_areAlike 94 = .ok (.iload_n 3, 1) := by decide +kernel
theorem dL_areAlike_95 : decode cL_areAlike 95 = .ok (.bipush 6, 2) := by decide +kernel
theorem dL_areAlike_97 : decode cL_areAlike 97 = .ok (.invokevirtual 50, 3) := by decide +kernel
theorem dL_areAlike_100 : decode cL_areAlike 100 = .ok (.if_icmp .ge 57, 3) := by decide +kernel
theorem dL_areAlike_103 : decode cL_areAlike 103 = .ok (.iload_n 2, 1) := by decide +kernel
theorem dL_areAlike_104 : decode cL_areAlike 104 = .ok (.ifCond .eq 45, 3) := by decide +kernel
theorem dL_areAlike_107 : decode cL_areAlike 107 = .ok (.aload_n 0, 1) := by decide +kernel
theorem dL_areAlike_108 : decode cL_areAlike 108 = .ok (.iload_n 3, 1) := by decide +kernel
theorem dL_areAlike_109 : decode cL_areAlike 109 = .ok (.iload 4, 2) := by decide +kernel
theorem dL_areAlike_111 : decode cL_areAlike 111 = .ok (.iconst 0, 1) := by decide +kernel
theorem dL_areAlike_112 : decode cL_areAlike 112 = .ok (.invokevirtual 53, 3) := by decide +kernel
theorem dL_areAlike_115 : decode cL_areAlike 115 = .ok (.aload_n 1, 1) := by decide +kernel
theorem dL_areAlike_116 : decode cL_areAlike 116 = .ok (.iload_n 3, 1) := by decide +kernel
theorem dL_areAlike_117 : decode cL_areAlike 117 = .ok (.iload 4, 2) := by decide +kernel
theorem dL_areAlike_119 : decode cL_areAlike 119 = .ok (.iconst 0, 1) := by decide +kernel
theorem dL_areAlike_120 : decode cL_areAlike 120 = .ok (.invokevirtual 53, 3) := by decide +kernel
theorem dL_areAlike_123 : decode cL_areAlike 123 = .ok (.if_icmp .ne 26, 3) := by decide +kernel
theorem dL_areAlike_126 : decode cL_areAlike 126 = .ok (.aload_n 0, 1) := by decide +kernel
theorem dL_areAlike_127 : decode cL_areAlike 127 = .ok (.iload_n 3, 1) := by decide +kernel
theorem dL_areAlike_128 : decode cL_areAlike 128 = .ok (.iload 4, 2) := by decide +kernel
theorem dL_areAlike_130 : decode cL_areAlike 130 = .ok (.iconst 1, 1) := by decide +kernel
theorem dL_areAlike_131 : decode cL_areAlike 131 = .ok (.invokevirtual 53, 3) := by decide +kernel
theorem dL_areAlike_134 : decode cL_areAlike 134 = .ok (.aload_n 1, 1) := by decide +kernel
theorem dL_areAlike_135 : decode cL_areAlike 135 = .ok (.iload_n 3, 1) := by decide +kernel
theorem dL_areAlike_136 : decode cL_areAlike 136 = .ok (.iload 4, 2) := by decide +kernel
theorem dL_areAlike_138 : decode cL_areAlike 138 = .ok (.iconst 1, 1) := by decide +kernel
theorem dL_areAlike_139 : decode cL_areAlike 139 = .ok (.invokevirtual 53, 3) := by decide +kernel
theorem dL_areAlike_142 : decode cL_areAlike 142 = .ok (.if_icmp .ne 7, 3) := by decide +kernel
theorem dL_areAlike_145 : decode cL_areAlike 145 = .ok (.iconst 1, 1) := by decide +kernel
theorem dL_areAlike_146 : decode cL_areAlike 146 = .ok (.goto 4, 3) := by decide +kernel
theorem dL_areAlike_149 : decode cL_areAlike 149 = .ok (.iconst 0, 1) := by decide +kernel
theorem dL_areAlike_150 : decode cL_areAlike 150 = .ok (.istore_n 2, 1) := by decide +kernel
theorem dL_areAlike_151 : decode cL_areAlike 151 = .ok (.iinc 4 1, 3) := by decide +kernel
theorem dL_areAlike_154 : decode cL_areAlike 154 = .ok (.goto (-63), 3) := by decide +kernel
theorem dL_areAlike_157 : decode cL_areAlike 157 = .ok (.iinc 3 1, 3) := by decide +kernel
theorem dL_areAlike_160 : decode cL_areAlike 160 = .ok (.goto (-120), 3) := by decide +kernel
theorem dL_areAlike_163 : decode cL_areAlike 163 = .ok (.iload_n 2, 1) := by decide +kernel
theorem dL_areAlike_164 : decode cL_areAlike 164 = .ok (.ireturn, 1) := by decide +kernel
set_option maxRecDepth 20000 in
theorem ggL_isLadderSo_X5_force : GoodIn wsL_isLadderSo wsX5_force := goodIn_ca (goodIn_ca (goodIn_r _ [5, 6, 7, 8, 4, 9, 10, 11, 12, 13, 14, 15, 16, 17, 18, 19, 20, 21, 22, 23, 24, 25, 26, 27, 28, 29, 30, 31, 32, 33, 34, 35, 36, 37, 38, 39, 40, 41, 42, 43, 44, 45, 46, 47, 48, 49, 50, 51, 52, 53, 54, 55, 56, 57, 58, 59, 60, 61, 62, 63, 64, 65, 66, 67, 68, 69, 70, 71, 72, 73, 74, 75, 76, 77, 78, 79, 80, 81, 82, 83, 84, 85, 86, 87, 88, 89, 136, 137, 138, 139, 140, 141, 142, 143, 144, 145, 146, 147, 148, 149, 150, 151, 152] (by decide +kernel) (by decide +kernel)) (goodIn_sub (fun _ h => List.mem_cons_of_mem _ (List.mem_append_left _ (List.mem_append_right _ h))) (by decide +kernel))) (goodIn_sub (fun _ h => List.mem_cons_of_mem _ (List.mem_append_right _ h)) (by decide +kernel))
set_option maxRecDepth 20000 in
theorem gL_isLadderSo_X5_force : GoodIn wsL_isLadderSo (wsV RL 56 RX5 yX5_force wsX5_force) := goodIn_app (goodIn_of _ (by decide +kernel)) ggL_isLadderSo_X5_force
set_option maxRecDepth 20000 in
theorem ggL_isLadderSo_X5_ladder : GoodIn wsL_isLadderSo wsX5_ladder := goodIn_ca (goodIn_ca (goodIn_r _ [93, 17, 18, 94, 95, 96, 97, 98, 99, 100, 101, 6, 7, 8, 4, 9, 10, 11, 12, 13, 89, 69, 70, 22, 71, 43, 45, 102, 40, 41, 42, 44, 33, 72, 73, 74, 75, 50, 51, 52, 53, 24, 25, 26, 27, 54, 55, 56, 57, 38, 32, 34, 35, 36, 37, 39, 46, 47, 48, 49, 58, 59, 60, 61, 62, 63, 64, 65, 66, 67, 68, 28, 29, 30, 31, 143, 144, 145, 146, 147, 148, 149, 150, 151, 152, 136, 137, 138, 139, 140, 141, 142] (by decide +kernel) (by decide +kernel)) (goodIn_sub (fun _ h => List.mem_cons_of_mem _ (List.mem_append_right _ h)) (by decide +kernel))) (goodIn_sub (fun _ h => List.mem_cons_of_mem _ (List.mem_append_left _ (List.mem_append_right _ h))) (by decide +kernel))
set_option maxRecDepth 20000 in
theorem gL_isLadderSo_X5_ladder : GoodIn wsL_isLadderSo (wsV RL 50 RX5 yX5_ladder wsX5_ladder) := goodIn_app (goodIn_of _ (by decide +kernel)) ggL_isLadderSo_X5_ladder
set_option maxRecDepth 20000 in
theorem ggL_isLadderSo_X5_person : GoodIn wsL_isLadderSo wsX5_person := goodIn_ca (goodIn_ca (goodIn_r _ [106, 17, 18, 6, 7, 8, 4, 9, 10, 11, 12, 13, 107, 108, 109, 110, 111, 112, 22, 113, 114, 115, 116, 117, 118, 45, 119, 120, 121, 122, 123, 44, 136, 137, 138, 139, 140, 141, 142, 143, 144, 145, 146, 147, 148, 149, 150, 151, 152] (by decide +kernel) (by decide +kernel)) (goodIn_sub (fun _ h => List.mem_cons_of_mem _ (List.mem_append_right _ h)) (by decide +kernel))) (goodIn_sub (fun _ h => List.mem_cons_of_mem _ (List.mem_append_left _ (List.mem_append_right _ h))) (by decide +kernel))
set_option maxRecDepth 20000 in
theorem gL_isLadderSo_X5_person : GoodIn wsL_isLadderSo (wsV RL 53 RX5 yX5_person wsX5_person) := goodIn_app (goodIn_of _ (by decide +kernel)) ggL_isLadderSo_X5_person
set_option maxRecDepth 20000 in
theorem ggL_isLadderSo_X5_held : GoodIn wsL_isLadderSo wsX5_held := goodIn_ca (goodIn_ca (goodIn_r _ [127, 6, 7, 8, 4, 9, 10, 11, 12, 13, 14, 15, 16, 17, 18, 128, 129, 130, 22, 131, 32, 132, 133, 26, 134, 38, 62, 135, 86, 87, 88, 33, 39, 40, 41, 42, 43, 44, 45, 68, 69, 70, 71, 34, 35, 36, 37, 63, 64, 65, 66, 67, 136, 137, 138, 139, 140, 141, 142, 143, 144, 145, 146, 147, 148, 149, 150, 151, 152] (by decide +kernel) (by decide +kernel)) (goodIn_sub (fun _ h => List.mem_cons_of_mem _ (List.mem_append_left _ (List.mem_append_right _ h))) (by decide +kernel))) (goodIn_sub (fun _ h => List.mem_cons_of_mem _ (List.mem_append_right _ h)) (by decide +kernel))
set_option maxRecDepth 20000 in
theorem gL_isLadderSo_X5_held : GoodIn wsL_isLadderSo (wsV RL 59 RX5 yX5_held wsX5_held) := goodIn_app (goodIn_of _ (by decide +kernel)) ggL_isLadderSo_X5_held
theorem dL_isLadderSo_0 : decode cL_isLadderSo 0 = .ok (.aload_n 0, 1) := by decide +kernel
theorem dL_isLadderSo_1 : decode cL_isLadderSo 1 = .ok (.iload_n 1, 1) := by decide +kernel
theorem dL_isLadderSo_2 : decode cL_isLadderSo 2 = .ok (.iconst 2, 1) := by decide +kernel
theorem dL_isLadderSo_3 : decode cL_isLadderSo 3 = .ok (.invokevirtual 56, 3) := by decide +kernel
theorem dL_isLadderSo_6 : decode cL_isLadderSo 6 = .ok (.istore_n 2, 1) := by decide +kernel
theorem dL_isLadderSo_7 : decode cL_isLadderSo 7 = .ok (.aload_n 0, 1) := by decide +kernel
theorem dL_isLadderSo_8 : decode cL_isLadderSo 8 = .ok (.iload_n 1, 1) := by decide +kernel
theorem dL_isLadderSo_9 : decode cL_isLadderSo 9 = .ok (.iconst 2, 1) := by decide +kernel
theorem dL_isLadderSo_10 : decode cL_isLadderSo 10 = .ok (.invokevirtual 50, 3) := by decide +kernel
theorem dL_isLadderSo_13 : decode cL_isLadderSo 13 = .ok (.istore_n 3, 1) := by decide +kernel
theorem dL_isLadderSo_14 : decode cL_isLadderSo 14 = .ok (.iconst 5, 1) := by decide +kernel
theorem dL_isLadderSo_15 : decode cL_isLadderSo 15 = .ok (.aload_n 0, 1) := by decide +kernel
theorem dL_isLadderSo_16 : decode cL_isLadderSo 16 = .ok (.iload_n 1, 1) := by decide +kernel
theorem dL_isLadderSo_17 : decode cL_isLadderSo 17 = .ok (.iconst 2, 1) := by decide +kernel
theorem dL_isLadderSo_18 : decode cL_isLadderSo 18 = .ok (.invokevirtual 50, 3) := by decide +kernel
theorem dL_isLadderSo_21 : decode cL_isLadderSo 21 = .ok (.imul, 1) := by decide +kernel
theorem dL_isLadderSo_22 : decode cL_isLadderSo 22 = .ok (.istore 4, 2) := by decide +kernel
theorem dL_isLadderSo_24 : decode cL_isLadderSo 24 = .ok (.iconst 0, 1) := by decide +kernel
theorem dL_isLadderSo_25 : decode cL_isLadderSo 25 = .ok (.istore 5, 2) := by decide +kernel
theorem dL_isLadderSo_27 : decode cL_isLadderSo 27 = .ok (.iload 5, 2) := by decide +kernel
theorem dL_isLadderSo_29 : decode cL_isLadderSo 29 = .ok (.aload_n 0, 1) := by decide +kernel
theorem dL_isLadderSo_30 : decode cL_isLadderSo 30 = .ok (.iload_n 1, 1) := by decide +kernel
theorem dL_isLadderSo_31 : decode cL_isLadderSo 31 = .ok (.bipush 6, 2) := by decide +kernel
theorem dL_isLadderSo_33 : decode cL_isLadderSo 33 = .ok (.invokevirtual 50, 3) := by decide +kernel
theorem dL_isLadderSo_36 : decode cL_isLadderSo 36 = .ok (.if_icmp .ge 42, 3) := by decide +kernel
theorem dL_isLadderSo_39 : decode cL_isLadderSo 39 = .ok (.iload_n 3, 1) := by decide +kernel
theorem dL_isLadderSo_40 : decode cL_isLadderSo 40 = .ok (.aload_n 0, 1) := by decide +kernel
theorem dL_isLadderSo_41 : decode cL_isLadderSo 41 = .ok (.iload_n 1, 1) := by decide +kernel
theorem dL_isLadderSo_42 : decode cL_isLadderSo 42 = .ok (.iload 5, 2) := by decide +kernel
theorem dL_isLadderSo_44 : decode cL_isLadderSo 44 = .ok (.iconst 0, 1) := by decide +kernel
theorem dL_isLadderSo_45 : decode cL_isLadderSo 45 = .ok (.invokevirtual 53, 3) := by decide +kernel
theorem dL_isLadderSo_48 : decode cL_isLadderSo 48 = .ok (.iadd, 1) := by decide +kernel
theorem dL_isLadderSo_49 : decode cL_isLadderSo 49 = .ok (.istore_n 3, 1) := by decide +kernel
theorem dL_isLadderSo_50 : decode cL_isLadderSo 50 = .ok (.iload 4, 2) := by decide +kernel
theorem dL_isLadderSo_52 : decode cL_isLadderSo 52 = .ok (.aload_n 0, 1) := by decide +kernel
theorem dL_isLadderSo_53 : decode cL_isLadderSo 53 = .ok (.iload_n 1, 1) := by decide +kernel
theorem dL_isLadderSo_54 : decode cL_isLadderSo 54 = .ok (.iload 5, 2) := by decide +kernel
theorem dL_isLadderSo_56 : decode cL_isLadderSo 56 = .ok (.iconst 0, 1) := by decide +kernel
theorem dL_isLadderSo_57 : decode cL_isLadderSo 57 = .ok (.invokevirtual 53, 3) := by decide +kernel
theorem dL_isLadderSo_60 : decode cL_isLadderSo 60 = .ok (.aload_n 0, 1) := by decide +kernel
theorem dL_isLadderSo_61 : decode cL_isLadderSo 61 = .ok (.iload_n 1, 1) := by decide +kernel
theorem dL_isLadderSo_62 : decode cL_isLadderSo 62 = .ok (.iload 5, 2) := by decide +kernel
theorem dL_isLadderSo_64 : decode cL_isLadderSo 64 = .ok (.iconst 1, 1) := by decide +kernel
theorem dL_isLadderSo_65 : decode cL_isLadderSo 65 = .ok (.invokevirtual 53, 3) := by decide +kernel
theorem dL_isLadderSo_68 : decode cL_isLadderSo 68 = .ok (.imul, 1) := by decide +kernel
theorem dL_isLadderSo_69 : decode cL_isLadderSo 69 = .ok (.iadd, 1) := by decide +kernel
theorem dL_isLadderSo_70 : decode cL_isLadderSo 70 = .ok (.istore 4, 2) := by decide +kernel
theorem dL_isLadderSo_72 : decode cL_isLadderSo 72 = .ok (.iinc 5 1, 3) := by decide +kernel
theorem dL_isLadderSo_75 : decode cL_isLadderSo 75 = .ok (.goto (-48), 3) := by decide +kernel
theorem dL_isLadderSo_78 : decode cL_isLadderSo 78 = .ok (.iload_n 3, 1) := by decide +kernel
theorem dL_isLadderSo_79 : decode cL_isLadderSo 79 = .ok (.aload_n 0, 1) := by decide +kernel
theorem dL_isLadderSo_80 : decode cL_isLadderSo 80 = .ok (.iload_n 1, 1) := by decide +kernel
theorem dL_isLadderSo_81 : decode cL_isLadderSo 81 = .ok (.bipush 7, 2) := by decide +kernel
theorem dL_isLadderSo_83 : decode cL_isLadderSo 83 = .ok (.invokevirtual 50, 3) := by decide +kernel
theorem dL_isLadderSo_86 : decode cL_isLadderSo 86 = .ok (.if_icmp .ne 72, 3) := by decide +kernel
theorem dL_isLadderSo_89 : decode cL_isLadderSo 89 = .ok (.iload 4, 2) := by decide +kernel
theorem dL_isLadderSo_91 : decode cL_isLadderSo 91 = .ok (.aload_n 0, 1) := by decide +kernel
theorem dL_isLadderSo_92 : decode cL_isLadderSo 92 = .ok (.iload_n 1, 1) := by decide +kernel
theorem dL_isLadderSo_93 : decode cL_isLadderSo 93 = .ok (.iconst 0, 1) := by decide +kernel
theorem dL_isLadderSo_94 : decode cL_isLadderSo 94 = .ok (.invokevirtual 50, 3) := by decide +kernel
theorem dL_isLadderSo_97 : decode cL_isLadderSo 97 = .ok (.imul, 1) := by decide +kernel
theorem dL_isLadderSo_98 : decode cL_isLadderSo 98 = .ok (.aload_n 0, 1) := by decide +kernel
theorem dL_isLadderSo_99 : decode cL_isLadderSo 99 = .ok (.iload_n 1, 1) := by decide +kernel
theorem dL_isLadderSo_100 : decode cL_isLadderSo 100 = .ok (.bipush 8, 2) := by decide +kernel
theorem dL_isLadderSo_102 : decode cL_isLadderSo 102 = .ok (.invokevirtual 50, 3) := by decide +kernel
theorem dL_isLadderSo_105 : decode cL_isLadderSo 105 = .ok (.if_icmp .ne 53, 3) := by decide +kernel
theorem dL_isLadderSo_108 : decode cL_isLadderSo 108 = .ok (.iload_n 2, 1) := by decide +kernel
theorem dL_isLadderSo_109 : decode cL_isLadderSo 109 = .ok (.ifCond .le 7, 3) := by decide +kernel
theorem dL_isLadderSo_112 : decode cL_isLadderSo 112 = .ok (.iconst 1, 1) := by decide +kernel
theorem dL_isLadderSo_113 : decode cL_isLadderSo 113 = .ok (.goto 4, 3) := by decide +kernel
theorem dL_isLadderSo_116 : decode cL_isLadderSo 116 = .ok (.iconst 0, 1) := by decide +kernel
theorem dL_isLadderSo_117 : decode cL_isLadderSo 117 = .ok (.aload_n 0, 1) := by decide +kernel
theorem dL_isLadderSo_118 : decode cL_isLadderSo 118 = .ok (.iload_n 1, 1) := by decide +kernel
theorem dL_isLadderSo_119 : decode cL_isLadderSo 119 = .ok (.bipush 10, 2) := by decide +kernel
theorem dL_isLadderSo_121 : decode cL_isLadderSo 121 = .ok (.invokevirtual 50, 3) := by decide +kernel
theorem dL_isLadderSo_124 : decode cL_isLadderSo 124 = .ok (.iconst 1, 1) := by decide +kernel
theorem dL_isLadderSo_125 : decode cL_isLadderSo 125 = .ok (.if_icmp .ne 7, 3) := by decide +kernel
theorem dL_isLadderSo_128 : decode cL_isLadderSo 128 = .ok (.iconst 1, 1) := by decide +kernel
theorem dL_isLadderSo_129 : decode cL_isLadderSo 129 = .ok (.goto 4, 3) := by decide +kernel
theorem dL_isLadderSo_132 : decode cL_isLadderSo 132 = .ok (.iconst 0, 1) := by decide +kernel
theorem dL_isLadderSo_133 : decode cL_isLadderSo 133 = .ok (.if_icmp .ne 25, 3) := by decide +kernel
theorem dL_isLadderSo_136 : decode cL_isLadderSo 136 = .ok (.aload_n 0, 1) := by decide +kernel
theorem dL_isLadderSo_137 : decode cL_isLadderSo 137 = .ok (.iload_n 1, 1) := by decide +kernel
theorem dL_isLadderSo_138 : decode cL_isLadderSo 138 = .ok (.bipush 6, 2) := by decide +kernel
theorem dL_isLadderSo_140 : decode cL_isLadderSo 140 = .ok (.invokevirtual 50, 3) := by decide +kernel
theorem dL_isLadderSo_143 : decode cL_isLadderSo 143 = .ok (.ifCond .eq 7, 3) := by decide +kernel
theorem dL_isLadderSo_146 : decode cL_isLadderSo 146 = .ok (.iload_n 2, 1) := by decide +kernel
theorem dL_isLadderSo_147 : decode cL_isLadderSo 147 = .ok (.ifCond .le 11, 3) := by decide +kernel
theorem dL_isLadderSo_150 : decode cL_isLadderSo 150 = .ok (.iload_n 2, 1) := by decide +kernel
theorem dL_isLadderSo_151 : decode cL_isLadderSo 151 = .ok (.ifCond .lt 7, 3) := by decide +kernel
theorem dL_isLadderSo_154 : decode cL_isLadderSo 154 = .ok (.iconst 1, 1) := by decide +kernel
theorem dL_isLadderSo_155 : decode cL_isLadderSo 155 = .ok (.goto 4, 3) := by decide +kernel
theorem dL_isLadderSo_158 : decode cL_isLadderSo 158 = .ok (.iconst 0, 1) := by decide +kernel
theorem dL_isLadderSo_159 : decode cL_isLadderSo 159 = .ok (.istore 5, 2) := by decide +kernel
theorem dL_isLadderSo_161 : decode cL_isLadderSo 161 = .ok (.iconst 0, 1) := by decide +kernel
theorem dL_isLadderSo_162 : decode cL_isLadderSo 162 = .ok (.istore 6, 2) := by decide +kernel
theorem dL_isLadderSo_164 : decode cL_isLadderSo 164 = .ok (.sipush (-1000), 3) := by decide +kernel
theorem dL_isLadderSo_167 : decode cL_isLadderSo 167 = .ok (.istore 7, 2) := by decide +kernel
theorem dL_isLadderSo_169 : decode cL_isLadderSo 169 = .ok (.iload 7, 2) := by decide +kernel
theorem dL_isLadderSo_171 : decode cL_isLadderSo 171 = .ok (.sipush 1000, 3) := by decide +kernel
theorem dL_isLadderSo_174 : decode cL_isLadderSo 174 = .ok (.if_icmp .gt 29, 3) := by decide +kernel
theorem dL_isLadderSo_177 : decode cL_isLadderSo 177 = .ok (.iload 6, 2) := by decide +kernel
theorem dL_isLadderSo_179 : decode cL_isLadderSo 179 = .ok (.aload_n 0, 1) := by decide +kernel
theorem dL_isLadderSo_180 : decode cL_isLadderSo 180 = .ok (.iload_n 1, 1) := by decide +kernel
theorem dL_isLadderSo_181 : decode cL_isLadderSo 181 = .ok (.iload 7, 2) := by decide +kernel
theorem dL_isLadderSo_183 : decode cL_isLadderSo 183 = .ok (.invokevirtual 59, 3) := by decide +kernel
theorem dL_isLadderSo_186 : decode cL_isLadderSo 186 = .ok (.ifCond .ne 7, 3) := by decide +kernel
theorem dL_isLadderSo_189 : decode cL_isLadderSo 189 = .ok (.iconst 1, 1) := by decide +kernel
theorem dL_isLadderSo_190 : decode cL_isLadderSo 190 = .ok (.goto 4, 3) := by decide +kernel
theorem dL_isLadderSo_193 : decode cL_isLadderSo 193 = .ok (.iconst 0, 1) := by decide +kernel
theorem dL_isLadderSo_194 : decode cL_isLadderSo 194 = .ok (.iadd, 1) := by decide +kernel
theorem dL_isLadderSo_195 : decode cL_isLadderSo 195 = .ok (.istore 6, 2) := by decide +kernel
theorem dL_isLadderSo_197 : decode cL_isLadderSo 197 = .ok (.iinc 7 1, 3) := by decide +kernel
theorem dL_isLadderSo_200 : decode cL_isLadderSo 200 = .ok (.goto (-31), 3) := by decide +kernel
theorem dL_isLadderSo_203 : decode cL_isLadderSo 203 = .ok (.iload_n 2, 1) := by decide +kernel
theorem dL_isLadderSo_204 : decode cL_isLadderSo 204 = .ok (.ifCond .ne 49, 3) := by decide +kernel
theorem dL_isLadderSo_207 : decode cL_isLadderSo 207 = .ok (.iload 5, 2) := by decide +kernel
theorem dL_isLadderSo_209 : decode cL_isLadderSo 209 = .ok (.ifCond .eq 42, 3) := by decide +kernel
theorem dL_isLadderSo_212 : decode cL_isLadderSo 212 = .ok (.iload 6, 2) := by decide +kernel
theorem dL_isLadderSo_214 : decode cL_isLadderSo 214 = .ok (.ifCond .ne 37, 3) := by decide +kernel
theorem dL_isLadderSo_217 : decode cL_isLadderSo 217 = .ok (.aload_n 0, 1) := by decide +kernel
theorem dL_isLadderSo_218 : decode cL_isLadderSo 218 = .ok (.iload_n 1, 1) := by decide +kernel
theorem dL_isLadderSo_219 : decode cL_isLadderSo 219 = .ok (.iconst 0, 1) := by decide +kernel
theorem dL_isLadderSo_220 : decode cL_isLadderSo 220 = .ok (.invokevirtual 56, 3) := by decide +kernel
theorem dL_isLadderSo_223 : decode cL_isLadderSo 223 = .ok (.iconst (-1), 1) := by decide +kernel
theorem dL_isLadderSo_224 : decode cL_isLadderSo 224 = .ok (.if_icmp .ne 27, 3) := by decide +kernel
theorem dL_isLadderSo_227 : decode cL_isLadderSo 227 = .ok (.aload_n 0, 1) := by decide +kernel
theorem dL_isLadderSo_228 : decode cL_isLadderSo 228 = .ok (.iload_n 1, 1) := by decide +kernel
theorem dL_isLadderSo_229 : decode cL_isLadderSo 229 = .ok (.iconst 3, 1) := by decide +kernel
theorem dL_isLadderSo_230 : decode cL_isLadderSo 230 = .ok (.invokevirtual 56, 3) := by decide +kernel
theorem dL_isLadderSo_233 : decode cL_isLadderSo 233 = .ok (.iconst (-1), 1) := by decide +kernel
theorem dL_isLadderSo_234 : decode cL_isLadderSo 234 = .ok (.if_icmp .ne 17, 3) := by decide +kernel
theorem dL_isLadderSo_237 : decode cL_isLadderSo 237 = .ok (.aload_n 0, 1) := by decide +kernel
theorem dL_isLadderSo_238 : decode cL_isLadderSo 238 = .ok (.iload_n 1, 1) := by decide +kernel
theorem dL_isLadderSo_239 : decode cL_isLadderSo 239 = .ok (.iconst 5, 1) := by decide +kernel
theorem dL_isLadderSo_240 : decode cL_isLadderSo 240 = .ok (.invokevirtual 56, 3) := by decide +kernel
theorem dL_isLadderSo_243 : decode cL_isLadderSo 243 = .ok (.iconst (-1), 1) := by decide +kernel
theorem dL_isLadderSo_244 : decode cL_isLadderSo 244 = .ok (.if_icmp .ne 7, 3) := by decide +kernel
theorem dL_isLadderSo_247 : decode cL_isLadderSo 247 = .ok (.iconst 1, 1) := by decide +kernel
theorem dL_isLadderSo_248 : decode cL_isLadderSo 248 = .ok (.goto 4, 3) := by decide +kernel
theorem dL_isLadderSo_251 : decode cL_isLadderSo 251 = .ok (.iconst 0, 1) := by decide +kernel
theorem dL_isLadderSo_252 : decode cL_isLadderSo 252 = .ok (.ireturn, 1) := by decide +kernel
theorem dL_isLadderSo_253 : decode cL_isLadderSo 253 = .ok (.aload_n 0, 1) := by decide +kernel
theorem dL_isLadderSo_254 : decode cL_isLadderSo 254 = .ok (.iload_n 1, 1) := by decide +kernel
theorem dL_isLadderSo_255 : decode cL_isLadderSo 255 = .ok (.iconst 0, 1) := by decide +kernel
theorem dL_isLadderSo_256 : decode cL_isLadderSo 256 = .ok (.invokevirtual 56, 3) := by decide +kernel
theorem dL_isLadderSo_259 : decode cL_isLadderSo 259 = .ok (.sipush 1000, 3) := by decide +kernel
theorem dL_isLadderSo_262 : decode cL_isLadderSo 262 = .ok (.isub, 1) := by decide +kernel
theorem dL_isLadderSo_263 : decode cL_isLadderSo 263 = .ok (.istore 7, 2) := by decide +kernel
theorem dL_isLadderSo_265 : decode cL_isLadderSo 265 = .ok (.aload_n 0, 1) := by decide +kernel
theorem dL_isLadderSo_266 : decode cL_isLadderSo 266 = .ok (.iload_n 1, 1) := by decide +kernel
theorem dL_isLadderSo_267 : decode cL_isLadderSo 267 = .ok (.iconst 1, 1) := by decide +kernel
theorem dL_isLadderSo_268 : decode cL_isLadderSo 268 = .ok (.invokevirtual 56, 3) := by decide +kernel
theorem dL_isLadderSo_271 : decode cL_isLadderSo 271 = .ok (.sipush 1000, 3) := by decide +kernel
theorem dL_isLadderSo_274 : decode cL_isLadderSo 274 = .ok (.isub, 1) := by decide +kernel
theorem dL_isLadderSo_275 : decode cL_isLadderSo 275 = .ok (.istore 8, 2) := by decide +kernel
theorem dL_isLadderSo_277 : decode cL_isLadderSo 277 = .ok (.aload_n 0, 1) := by decide +kernel
theorem dL_isLadderSo_278 : decode cL_isLadderSo 278 = .ok (.iload_n 1, 1) := by decide +kernel
theorem dL_isLadderSo_279 : decode cL_isLadderSo 279 = .ok (.iconst 3, 1) := by decide +kernel
theorem dL_isLadderSo_280 : decode cL_isLadderSo 280 = .ok (.invokevirtual 56, 3) := by decide +kernel
theorem dL_isLadderSo_283 : decode cL_isLadderSo 283 = .ok (.sipush 1000, 3) := by decide +kernel
theorem dL_isLadderSo_286 : decode cL_isLadderSo 286 = .ok (.isub, 1) := by decide +kernel
theorem dL_isLadderSo_287 : decode cL_isLadderSo 287 = .ok (.istore 9, 2) := by decide +kernel
theorem dL_isLadderSo_289 : decode cL_isLadderSo 289 = .ok (.iload 5, 2) := by decide +kernel
theorem dL_isLadderSo_291 : decode cL_isLadderSo 291 = .ok (.ifCond .eq 94, 3) := by decide +kernel
theorem dL_isLadderSo_294 : decode cL_isLadderSo 294 = .ok (.iload 6, 2) := by decide +kernel
theorem dL_isLadderSo_296 : decode cL_isLadderSo 296 = .ok (.iload_n 2, 1) := by decide +kernel
theorem dL_isLadderSo_297 : decode cL_isLadderSo 297 = .ok (.if_icmp .ne 88, 3) := by decide +kernel
theorem dL_isLadderSo_300 : decode cL_isLadderSo 300 = .ok (.iload 8, 2) := by decide +kernel
theorem dL_isLadderSo_302 : decode cL_isLadderSo 302 = .ok (.iload 7, 2) := by decide +kernel
theorem dL_isLadderSo_304 : decode cL_isLadderSo 304 = .ok (.isub, 1) := by decide +kernel
theorem dL_isLadderSo_305 : decode cL_isLadderSo 305 = .ok (.iconst 1, 1) := by decide +kernel
theorem dL_isLadderSo_306 : decode cL_isLadderSo 306 = .ok (.iadd, 1) := by decide +kernel
theorem dL_isLadderSo_307 : decode cL_isLadderSo 307 = .ok (.iload_n 2, 1) := by decide +kernel
theorem dL_isLadderSo_308 : decode cL_isLadderSo 308 = .ok (.if_icmp .ne 77, 3) := by decide +kernel
theorem dL_isLadderSo_311 : decode cL_isLadderSo 311 = .ok (.aload_n 0, 1) := by decide +kernel
theorem dL_isLadderSo_312 : decode cL_isLadderSo 312 = .ok (.iload_n 1, 1) := by decide +kernel
theorem dL_isLadderSo_313 : decode cL_isLadderSo 313 = .ok (.iload 7, 2) := by decide +kernel
theorem dL_isLadderSo_315 : decode cL_isLadderSo 315 = .ok (.invokevirtual 59, 3) := by decide +kernel
theorem dL_isLadderSo_318 : decode cL_isLadderSo 318 = .ok (.ifCond .ne 67, 3) := by decide +kernel
theorem dL_isLadderSo_321 : decode cL_isLadderSo 321 = .ok (.aload_n 0, 1) := by decide +kernel
theorem dL_isLadderSo_322 : decode cL_isLadderSo 322 = .ok (.iload_n 1, 1) := by decide +kernel
theorem dL_isLadderSo_323 : decode cL_isLadderSo 323 = .ok (.iload 8, 2) := by decide +kernel
theorem dL_isLadderSo_325 : decode cL_isLadderSo 325 = .ok (.invokevirtual 59, 3) := by decide +kernel
theorem dL_isLadderSo_328 : decode cL_isLadderSo 328 = .ok (.ifCond .ne 57, 3) := by decide +kernel
theorem dL_isLadderSo_331 : decode cL_isLadderSo 331 = .ok (.aload_n 0, 1) := by decide +kernel
theorem dL_isLadderSo_332 : decode cL_isLadderSo 332 = .ok (.iload_n 1, 1) := by decide +kernel
theorem dL_isLadderSo_333 : decode cL_isLadderSo 333 = .ok (.iload 9, 2) := by decide +kernel
theorem dL_isLadderSo_335 : decode cL_isLadderSo 335 = .ok (.invokevirtual 59, 3) := by decide +kernel
theorem dL_isLadderSo_338 : decode cL_isLadderSo 338 = .ok (.ifCond .ne 47, 3) := by decide +kernel
theorem dL_isLadderSo_341 : decode cL_isLadderSo 341 = .ok (.iload 7, 2) := by decide +kernel
theorem dL_isLadderSo_343 : decode cL_isLadderSo 343 = .ok (.sipush (-1000), 3) := by decide +kernel
theorem dL_isLadderSo_346 : decode cL_isLadderSo 346 = .ok (.if_icmp .eq 15, 3) := by decide +kernel
theorem dL_isLadderSo_349 : decode cL_isLadderSo 349 = .ok (.aload_n 0, 1) := by decide +kernel
theorem dL_isLadderSo_350 : decode cL_isLadderSo 350 = .ok (.iload_n 1, 1) := by decide +kernel
theorem dL_isLadderSo_351 : decode cL_isLadderSo 351 = .ok (.iload 7, 2) := by decide +kernel
theorem dL_isLadderSo_353 : decode cL_isLadderSo 353 = .ok (.iconst 1, 1) := by decide +kernel
theorem dL_isLadderSo_354 : decode cL_isLadderSo 354 = .ok (.isub, 1) := by decide +kernel
theorem dL_isLadderSo_355 : decode cL_isLadderSo 355 = .ok (.invokevirtual 59, 3) := by decide +kernel
theorem dL_isLadderSo_358 : decode cL_isLadderSo 358 = .ok (.ifCond .le 27, 3) := by decide +kernel
theorem dL_isLadderSo_361 : decode cL_isLadderSo 361 = .ok (.iload 8, 2) := by decide +kernel
theorem dL_isLadderSo_363 : decode cL_isLadderSo 363 = .ok (.sipush 1000, 3) := by decide +kernel
theorem dL_isLadderSo_366 : decode cL_isLadderSo 366 = .ok (.if_icmp .eq 15, 3) := by decide +kernel
end
section
theorem dL_isLadderSo_369 : decode cL_isLadderSo 369 = .ok (.aload_n 0, 1) := by decide +kernel
theorem dL_isLadderSo_370 : decode cL_isLadderSo 370 = .ok (.iload_n 1, 1) := by decide +kernel
theorem dL_isLadderSo_371 : decode cL_isLadderSo 371 = .ok (.iload 8, 2) := by decide +kernel
theorem dL_isLadderSo_373 : decode cL_isLadderSo 373 = .ok (.iconst 1, 1) := by decide +kernel
theorem dL_isLadderSo_374 : decode cL_isLadderSo 374 = .ok (.iadd, 1) := by decide +kernel
theorem dL_isLadderSo_375 : decode cL_isLadderSo 375 = .ok (.invokevirtual 59, 3) := by decide +kernel
theorem dL_isLadderSo_378 : decode cL_isLadderSo 378 = .ok (.ifCond .le 7, 3) := by decide +kernel
theorem dL_isLadderSo_381 : decode cL_isLadderSo 381 = .ok (.iconst 1, 1) := by decide +kernel
theorem dL_isLadderSo_382 : decode cL_isLadderSo 382 = .ok (.goto 4, 3) := by decide +kernel
theorem dL_isLadderSo_385 : decode cL_isLadderSo 385 = .ok (.iconst 0, 1) := by decide +kernel
theorem dL_isLadderSo_386 : decode cL_isLadderSo 386 = .ok (.istore 5, 2) := by decide +kernel
theorem dL_isLadderSo_388 : decode cL_isLadderSo 388 = .ok (.iload 5, 2) := by decide +kernel
theorem dL_isLadderSo_390 : decode cL_isLadderSo 390 = .ok (.ifCond .eq 65, 3) := by decide +kernel
theorem dL_isLadderSo_393 : decode cL_isLadderSo 393 = .ok (.iload 9, 2) := by decide +kernel
theorem dL_isLadderSo_395 : decode cL_isLadderSo 395 = .ok (.iload 7, 2) := by decide +kernel
theorem dL_isLadderSo_397 : decode cL_isLadderSo 397 = .ok (.if_icmp .lt 58, 3) := by decide +kernel
theorem dL_isLadderSo_400 : decode cL_isLadderSo 400 = .ok (.iload 9, 2) := by decide +kernel
theorem dL_isLadderSo_402 : decode cL_isLadderSo 402 = .ok (.iload 8, 2) := by decide +kernel
theorem dL_isLadderSo_404 : decode cL_isLadderSo 404 = .ok (.if_icmp .gt 51, 3) := by decide +kernel
theorem dL_isLadderSo_407 : decode cL_isLadderSo 407 = .ok (.iload 9, 2) := by decide +kernel
theorem dL_isLadderSo_409 : decode cL_isLadderSo 409 = .ok (.ifCond .eq 27, 3) := by decide +kernel
theorem dL_isLadderSo_412 : decode cL_isLadderSo 412 = .ok (.iload 7, 2) := by decide +kernel
theorem dL_isLadderSo_414 : decode cL_isLadderSo 414 = .ok (.ifCond .le 10, 3) := by decide +kernel
theorem dL_isLadderSo_417 : decode cL_isLadderSo 417 = .ok (.iload 9, 2) := by decide +kernel
theorem dL_isLadderSo_419 : decode cL_isLadderSo 419 = .ok (.iload 7, 2) := by decide +kernel
theorem dL_isLadderSo_421 : decode cL_isLadderSo 421 = .ok (.if_icmp .eq 15, 3) := by decide +kernel
theorem dL_isLadderSo_424 : decode cL_isLadderSo 424 = .ok (.iload 8, 2) := by decide +kernel
theorem dL_isLadderSo_426 : decode cL_isLadderSo 426 = .ok (.ifCond .ge 29, 3) := by decide +kernel
theorem dL_isLadderSo_429 : decode cL_isLadderSo 429 = .ok (.iload 9, 2) := by decide +kernel
theorem dL_isLadderSo_431 : decode cL_isLadderSo 431 = .ok (.iload 8, 2) := by decide +kernel
theorem dL_isLadderSo_433 : decode cL_isLadderSo 433 = .ok (.if_icmp .ne 22, 3) := by decide +kernel
theorem dL_isLadderSo_436 : decode cL_isLadderSo 436 = .ok (.iload 7, 2) := by decide +kernel
theorem dL_isLadderSo_438 : decode cL_isLadderSo 438 = .ok (.ifCond .gt 13, 3) := by decide +kernel
theorem dL_isLadderSo_441 : decode cL_isLadderSo 441 = .ok (.iload 8, 2) := by decide +kernel
theorem dL_isLadderSo_443 : decode cL_isLadderSo 443 = .ok (.ifCond .lt 8, 3) := by decide +kernel
theorem dL_isLadderSo_446 : decode cL_isLadderSo 446 = .ok (.iload 9, 2) := by decide +kernel
theorem dL_isLadderSo_448 : decode cL_isLadderSo 448 = .ok (.ifCond .ne 7, 3) := by decide +kernel
theorem dL_isLadderSo_451 : decode cL_isLadderSo 451 = .ok (.iconst 1, 1) := by decide +kernel
theorem dL_isLadderSo_452 : decode cL_isLadderSo 452 = .ok (.goto 4, 3) := by decide +kernel
theorem dL_isLadderSo_455 : decode cL_isLadderSo 455 = .ok (.iconst 0, 1) := by decide +kernel
theorem dL_isLadderSo_456 : decode cL_isLadderSo 456 = .ok (.istore 5, 2) := by decide +kernel
theorem dL_isLadderSo_458 : decode cL_isLadderSo 458 = .ok (.iload 5, 2) := by decide +kernel
theorem dL_isLadderSo_460 : decode cL_isLadderSo 460 = .ok (.ifCond .eq 82, 3) := by decide +kernel
theorem dL_isLadderSo_463 : decode cL_isLadderSo 463 = .ok (.aload_n 0, 1) := by decide +kernel
theorem dL_isLadderSo_464 : decode cL_isLadderSo 464 = .ok (.iload_n 1, 1) := by decide +kernel
theorem dL_isLadderSo_465 : decode cL_isLadderSo 465 = .ok (.iconst 4, 1) := by decide +kernel
theorem dL_isLadderSo_466 : decode cL_isLadderSo 466 = .ok (.invokevirtual 56, 3) := by decide +kernel
theorem dL_isLadderSo_469 : decode cL_isLadderSo 469 = .ok (.aload_n 0, 1) := by decide +kernel
theorem dL_isLadderSo_470 : decode cL_isLadderSo 470 = .ok (.iload_n 1, 1) := by decide +kernel
theorem dL_isLadderSo_471 : decode cL_isLadderSo 471 = .ok (.bipush 8, 2) := by decide +kernel
theorem dL_isLadderSo_473 : decode cL_isLadderSo 473 = .ok (.invokevirtual 50, 3) := by decide +kernel
theorem dL_isLadderSo_476 : decode cL_isLadderSo 476 = .ok (.bipush 10, 2) := by decide +kernel
theorem dL_isLadderSo_478 : decode cL_isLadderSo 478 = .ok (.iload 9, 2) := by decide +kernel
theorem dL_isLadderSo_480 : decode cL_isLadderSo 480 = .ok (.imul, 1) := by decide +kernel
theorem dL_isLadderSo_481 : decode cL_isLadderSo 481 = .ok (.aload_n 0, 1) := by decide +kernel
theorem dL_isLadderSo_482 : decode cL_isLadderSo 482 = .ok (.iload_n 1, 1) := by decide +kernel
theorem dL_isLadderSo_483 : decode cL_isLadderSo 483 = .ok (.iconst 0, 1) := by decide +kernel
theorem dL_isLadderSo_484 : decode cL_isLadderSo 484 = .ok (.invokevirtual 50, 3) := by decide +kernel
theorem dL_isLadderSo_487 : decode cL_isLadderSo 487 = .ok (.imul, 1) := by decide +kernel
theorem dL_isLadderSo_488 : decode cL_isLadderSo 488 = .ok (.isub, 1) := by decide +kernel
theorem dL_isLadderSo_489 : decode cL_isLadderSo 489 = .ok (.if_icmp .ne 53, 3) := by decide +kernel
theorem dL_isLadderSo_492 : decode cL_isLadderSo 492 = .ok (.aload_n 0, 1) := by decide +kernel
theorem dL_isLadderSo_493 : decode cL_isLadderSo 493 = .ok (.iload_n 1, 1) := by decide +kernel
theorem dL_isLadderSo_494 : decode cL_isLadderSo 494 = .ok (.iconst 4, 1) := by decide +kernel
theorem dL_isLadderSo_495 : decode cL_isLadderSo 495 = .ok (.invokevirtual 56, 3) := by decide +kernel
theorem dL_isLadderSo_498 : decode cL_isLadderSo 498 = .ok (.ifCond .lt 44, 3) := by decide +kernel
theorem dL_isLadderSo_501 : decode cL_isLadderSo 501 = .ok (.aload_n 0, 1) := by decide +kernel
theorem dL_isLadderSo_502 : decode cL_isLadderSo 502 = .ok (.iload_n 1, 1) := by decide +kernel
theorem dL_isLadderSo_503 : decode cL_isLadderSo 503 = .ok (.iconst 5, 1) := by decide +kernel
theorem dL_isLadderSo_504 : decode cL_isLadderSo 504 = .ok (.invokevirtual 56, 3) := by decide +kernel
theorem dL_isLadderSo_507 : decode cL_isLadderSo 507 = .ok (.iload_n 3, 1) := by decide +kernel
theorem dL_isLadderSo_508 : decode cL_isLadderSo 508 = .ok (.iload 9, 2) := by decide +kernel
theorem dL_isLadderSo_510 : decode cL_isLadderSo 510 = .ok (.isub, 1) := by decide +kernel
theorem dL_isLadderSo_511 : decode cL_isLadderSo 511 = .ok (.if_icmp .ne 31, 3) := by decide +kernel
theorem dL_isLadderSo_514 : decode cL_isLadderSo 514 = .ok (.aload_n 0, 1) := by decide +kernel
theorem dL_isLadderSo_515 : decode cL_isLadderSo 515 = .ok (.iload_n 1, 1) := by decide +kernel
theorem dL_isLadderSo_516 : decode cL_isLadderSo 516 = .ok (.iconst 5, 1) := by decide +kernel
theorem dL_isLadderSo_517 : decode cL_isLadderSo 517 = .ok (.invokevirtual 56, 3) := by decide +kernel
theorem dL_isLadderSo_520 : decode cL_isLadderSo 520 = .ok (.ifCond .lt 22, 3) := by decide +kernel
theorem dL_isLadderSo_523 : decode cL_isLadderSo 523 = .ok (.aload_n 0, 1) := by decide +kernel
theorem dL_isLadderSo_524 : decode cL_isLadderSo 524 = .ok (.iload_n 1, 1) := by decide +kernel
theorem dL_isLadderSo_525 : decode cL_isLadderSo 525 = .ok (.iconst 4, 1) := by decide +kernel
theorem dL_isLadderSo_526 : decode cL_isLadderSo 526 = .ok (.invokevirtual 50, 3) := by decide +kernel
theorem dL_isLadderSo_529 : decode cL_isLadderSo 529 = .ok (.iconst 3, 1) := by decide +kernel
theorem dL_isLadderSo_530 : decode cL_isLadderSo 530 = .ok (.if_icmp .ne 8, 3) := by decide +kernel
theorem dL_isLadderSo_533 : decode cL_isLadderSo 533 = .ok (.iload 7, 2) := by decide +kernel
theorem dL_isLadderSo_535 : decode cL_isLadderSo 535 = .ok (.ifCond .lt 7, 3) := by decide +kernel
theorem dL_isLadderSo_538 : decode cL_isLadderSo 538 = .ok (.iconst 1, 1) := by decide +kernel
theorem dL_isLadderSo_539 : decode cL_isLadderSo 539 = .ok (.goto 4, 3) := by decide +kernel
theorem dL_isLadderSo_542 : decode cL_isLadderSo 542 = .ok (.iconst 0, 1) := by decide +kernel
theorem dL_isLadderSo_543 : decode cL_isLadderSo 543 = .ok (.ireturn, 1) := by decide +kernel
set_option maxRecDepth 20000 in
theorem ggL_areTrialsSo_X5_neededRope : GoodIn wsL_areTrialsSo wsX5_neededRope := goodIn_ca (goodIn_r _ [5, 6, 7, 8, 9, 10, 4, 11, 12, 13, 14, 15, 16, 17, 18, 19, 20, 21, 22, 23, 24, 25, 26, 27, 28, 29, 30, 31, 32, 33, 34, 35, 36, 37, 38, 39, 40, 41, 42, 43, 44, 45, 46, 47, 48, 49, 50, 51, 52, 53, 54, 55, 56, 57, 58, 59, 60, 61, 62, 63, 64, 65, 66, 67, 68, 69, 70, 71, 72, 73, 74, 138, 139, 140, 141, 142, 143, 144, 145, 146, 147, 148, 149, 150, 151, 152, 153, 154] (by decide +kernel) (by decide +kernel)) (goodIn_sub (fun _ h => List.mem_cons_of_mem _ (List.mem_append_left _ (List.mem_append_right _ h))) (by decide +kernel))
set_option maxRecDepth 20000 in
theorem gL_areTrialsSo_X5_neededRope : GoodIn wsL_areTrialsSo (wsV RL 62 RX5 yX5_neededRope wsX5_neededRope) := goodIn_app (goodIn_of _ (by decide +kernel)) ggL_areTrialsSo_X5_neededRope
set_option maxRecDepth 20000 in
theorem ggL_areTrialsSo_X5_walls : GoodIn wsL_areTrialsSo wsX5_walls := goodIn_ca (goodIn_r _ [78, 6, 79, 8, 9, 10, 4, 11, 12, 13, 14, 15, 16, 17, 18, 19, 20, 21, 22, 23, 24, 25, 26, 27, 28, 29, 30, 31, 32, 33, 34, 35, 36, 37, 38, 39, 40, 41, 42, 43, 44, 45, 46, 47, 48, 49, 50, 51, 52, 53, 54, 55, 56, 57, 58, 59, 60, 61, 62, 63, 64, 65, 66, 67, 68, 69, 70, 71, 72, 73, 74, 138, 139, 140, 141, 142, 143, 144, 145, 146, 147, 148, 149, 150, 151, 152, 153, 154] (by decide +kernel) (by decide +kernel)) (goodIn_sub (fun _ h => List.mem_cons_of_mem _ (List.mem_append_left _ (List.mem_append_right _ h))) (by decide +kernel))
set_option maxRecDepth 20000 in
theorem gL_areTrialsSo_X5_walls : GoodIn wsL_areTrialsSo (wsV RL 65 RX5 yX5_walls wsX5_walls) := goodIn_app (goodIn_of _ (by decide +kernel)) ggL_areTrialsSo_X5_walls
set_option maxRecDepth 20000 in
theorem ggL_areTrialsSo_X5_bestBase : GoodIn wsL_areTrialsSo wsX5_bestBase := goodIn_ca (goodIn_r _ [83, 6, 84, 8, 9, 10, 4, 11, 12, 13, 14, 15, 16, 17, 18, 19, 20, 21, 22, 23, 24, 25, 26, 27, 28, 29, 30, 85, 86, 87, 88, 39, 40, 41, 42, 71, 72, 73, 74, 47, 48, 49, 50, 51, 52, 53, 54, 55, 56, 57, 58, 35, 36, 37, 38, 43, 44, 45, 46, 59, 60, 61, 62, 63, 64, 65, 66, 67, 68, 69, 70, 138, 139, 140, 141, 142, 143, 144, 145, 146, 147, 148, 149, 150, 151, 152, 153, 154] (by decide +kernel) (by decide +kernel)) (goodIn_sub (fun _ h => List.mem_cons_of_mem _ (List.mem_append_left _ (List.mem_append_right _ h))) (by decide +kernel))
set_option maxRecDepth 20000 in
theorem gL_areTrialsSo_X5_bestBase : GoodIn wsL_areTrialsSo (wsV RL 68 RX5 yX5_bestBase wsX5_bestBase) := goodIn_app (goodIn_of _ (by decide +kernel)) ggL_areTrialsSo_X5_bestBase
set_option maxRecDepth 20000 in
theorem ggL_areTrialsSo_X5_ladder : GoodIn wsL_areTrialsSo wsX5_ladder := goodIn_ca (goodIn_ca (goodIn_r _ [92, 93, 94, 84, 95, 96, 97, 79, 7, 98, 99, 8, 9, 10, 4, 11, 12, 13, 14, 15, 100, 68, 69, 19, 70, 23, 29, 101, 52, 53, 54, 30, 21, 31, 32, 33, 34, 35, 36, 37, 38, 39, 40, 41, 42, 43, 44, 45, 46, 25, 22, 47, 48, 49, 50, 51, 55, 56, 57, 58, 59, 60, 61, 62, 26, 63, 64, 65, 66, 24, 67, 71, 72, 73, 74, 142, 143, 144, 145, 146, 147, 148, 149, 150, 151, 138, 139, 140, 141, 152, 153, 154] (by decide +kernel) (by decide +kernel)) (goodIn_sub (fun _ h => List.mem_cons_of_mem _ (List.mem_append_right _ h)) (by decide +kernel))) (goodIn_sub (fun _ h => List.mem_cons_of_mem _ (List.mem_append_left _ (List.mem_append_right _ h))) (by decide +kernel))
set_option maxRecDepth 20000 in
theorem gL_areTrialsSo_X5_ladder : GoodIn wsL_areTrialsSo (wsV RL 50 RX5 yX5_ladder wsX5_ladder) := goodIn_app (goodIn_of _ (by decide +kernel)) ggL_areTrialsSo_X5_ladder
set_option maxRecDepth 20000 in
theorem ggL_areTrialsSo_X5_riskiest : GoodIn wsL_areTrialsSo wsX5_riskiest := goodIn_ca (goodIn_r _ [105, 98, 6, 8, 9, 10, 4, 11, 12, 13, 14, 15, 16, 17, 18, 19, 20, 21, 22, 23, 24, 25, 26, 27, 28, 29, 30, 106, 107, 108, 109, 110, 111, 112, 113, 85, 86, 87, 88, 39, 40, 41, 42, 71, 72, 73, 74, 47, 48, 49, 50, 51, 52, 53, 54, 55, 56, 57, 58, 35, 36, 37, 38, 43, 44, 45, 46, 59, 60, 61, 62, 63, 64, 65, 66, 67, 68, 69, 70, 142, 143, 144, 145, 146, 147, 148, 149, 150, 151, 138, 139, 140, 141, 152, 153, 154] (by decide +kernel) (by decide +kernel)) (goodIn_sub (fun _ h => List.mem_cons_of_mem _ (List.mem_append_left _ (List.mem_append_right _ h))) (by decide +kernel))
set_option maxRecDepth 20000 in
theorem gL_areTrialsSo_X5_riskiest : GoodIn wsL_areTrialsSo (wsV RL 71 RX5 yX5_riskiest wsX5_riskiest) := goodIn_app (goodIn_of _ (by decide +kernel)) ggL_areTrialsSo_X5_riskiest
set_option maxRecDepth 20000 in
theorem ggL_areTrialsSo_X5_highest : GoodIn wsL_areTrialsSo wsX5_highest := goodIn_ca (goodIn_r _ [117, 6, 8, 9, 10, 4, 11, 12, 13, 14, 15, 118, 119, 120, 121, 111, 112, 19, 113, 28, 16, 17, 18, 20, 21, 22, 23, 24, 25, 26, 27, 29, 30, 122, 123, 124, 125, 110, 126, 127, 128, 129, 31, 32, 33, 34, 35, 36, 37, 38, 39, 40, 41, 42, 43, 44, 45, 46, 47, 48, 49, 50, 51, 52, 53, 54, 55, 56, 57, 58, 59, 60, 61, 62, 63, 64, 65, 66, 67, 68, 69, 70, 71, 72, 73, 74, 138, 139, 140, 141, 152, 153, 154, 142, 143, 144, 145, 146, 147, 148, 149, 150, 151] (by decide +kernel) (by decide +kernel)) (goodIn_sub (fun _ h => List.mem_cons_of_mem _ (List.mem_append_left _ (List.mem_append_right _ h))) (by decide +kernel))
set_option maxRecDepth 20000 in
theorem gL_areTrialsSo_X5_highest : GoodIn wsL_areTrialsSo (wsV RL 74 RX5 yX5_highest wsX5_highest) := goodIn_app (goodIn_of _ (by decide +kernel)) ggL_areTrialsSo_X5_highest
set_option maxRecDepth 20000 in
theorem ggL_areTrialsSo_X5_person : GoodIn wsL_areTrialsSo wsX5_person := goodIn_ca (goodIn_ca (goodIn_r _ [133, 93, 94, 8, 9, 10, 4, 11, 12, 13, 14, 15, 118, 119, 120, 121, 111, 112, 19, 113, 28, 134, 135, 136, 137, 29, 110, 122, 123, 124, 125, 30, 138, 139, 140, 141, 152, 153, 154, 142, 143, 144, 145, 146, 147, 148, 149, 150, 151] (by decide +kernel) (by decide +kernel)) (goodIn_sub (fun _ h => List.mem_cons_of_mem _ (List.mem_append_right _ h)) (by decide +kernel))) (goodIn_sub (fun _ h => List.mem_cons_of_mem _ (List.mem_append_left _ (List.mem_append_right _ h))) (by decide +kernel))
set_option maxRecDepth 20000 in
theorem gL_areTrialsSo_X5_person : GoodIn wsL_areTrialsSo (wsV RL 53 RX5 yX5_person wsX5_person) := goodIn_app (goodIn_of _ (by decide +kernel)) ggL_areTrialsSo_X5_person
theorem dL_areTrialsSo_0 : decode cL_areTrialsSo 0 = .ok (.aload_n 0, 1) := by decide +kernel
theorem dL_areTrialsSo_1 : decode cL_areTrialsSo 1 = .ok (.iload_n 1, 1) := by decide +kernel
theorem dL_areTrialsSo_2 : decode cL_areTrialsSo 2 = .ok (.invokevirtual 62, 3) := by decide +kernel
theorem dL_areTrialsSo_5 : decode cL_areTrialsSo 5 = .ok (.istore_n 2, 1) := by decide +kernel
theorem dL_areTrialsSo_6 : decode cL_areTrialsSo 6 = .ok (.aload_n 0, 1) := by decide +kernel
theorem dL_areTrialsSo_7 : decode cL_areTrialsSo 7 = .ok (.iload_n 1, 1) := by decide +kernel
theorem dL_areTrialsSo_8 : decode cL_areTrialsSo 8 = .ok (.invokevirtual 65, 3) := by decide +kernel
theorem dL_areTrialsSo_11 : decode cL_areTrialsSo 11 = .ok (.istore_n 3, 1) := by decide +kernel
theorem dL_areTrialsSo_12 : decode cL_areTrialsSo 12 = .ok (.aload_n 0, 1) := by decide +kernel
theorem dL_areTrialsSo_13 : decode cL_areTrialsSo 13 = .ok (.iload_n 1, 1) := by decide +kernel
theorem dL_areTrialsSo_14 : decode cL_areTrialsSo 14 = .ok (.invokevirtual 68, 3) := by decide +kernel
theorem dL_areTrialsSo_17 : decode cL_areTrialsSo 17 = .ok (.istore 4, 2) := by decide +kernel
theorem dL_areTrialsSo_19 : decode cL_areTrialsSo 19 = .ok (.aload_n 0, 1) := by decide +kernel
theorem dL_areTrialsSo_20 : decode cL_areTrialsSo 20 = .ok (.iload_n 1, 1) := by decide +kernel
theorem dL_areTrialsSo_21 : decode cL_areTrialsSo 21 = .ok (.bipush 6, 2) := by decide +kernel
theorem dL_areTrialsSo_23 : decode cL_areTrialsSo 23 = .ok (.invokevirtual 50, 3) := by decide +kernel
theorem dL_areTrialsSo_26 : decode cL_areTrialsSo 26 = .ok (.istore 5, 2) := by decide +kernel
theorem dL_areTrialsSo_28 : decode cL_areTrialsSo 28 = .ok (.aload_n 0, 1) := by decide +kernel
theorem dL_areTrialsSo_29 : decode cL_areTrialsSo 29 = .ok (.iload_n 1, 1) := by decide +kernel
theorem dL_areTrialsSo_30 : decode cL_areTrialsSo 30 = .ok (.invokevirtual 71, 3) := by decide +kernel
theorem dL_areTrialsSo_33 : decode cL_areTrialsSo 33 = .ok (.istore 6, 2) := by decide +kernel
theorem dL_areTrialsSo_35 : decode cL_areTrialsSo 35 = .ok (.aload_n 0, 1) := by decide +kernel
theorem dL_areTrialsSo_36 : decode cL_areTrialsSo 36 = .ok (.iload_n 1, 1) := by decide +kernel
theorem dL_areTrialsSo_37 : decode cL_areTrialsSo 37 = .ok (.bipush 10, 2) := by decide +kernel
theorem dL_areTrialsSo_39 : decode cL_areTrialsSo 39 = .ok (.invokevirtual 50, 3) := by decide +kernel
theorem dL_areTrialsSo_42 : decode cL_areTrialsSo 42 = .ok (.iconst 1, 1) := by decide +kernel
theorem dL_areTrialsSo_43 : decode cL_areTrialsSo 43 = .ok (.if_icmp .ne 7, 3) := by decide +kernel
theorem dL_areTrialsSo_46 : decode cL_areTrialsSo 46 = .ok (.iconst 1, 1) := by decide +kernel
theorem dL_areTrialsSo_47 : decode cL_areTrialsSo 47 = .ok (.goto 4, 3) := by decide +kernel
theorem dL_areTrialsSo_50 : decode cL_areTrialsSo 50 = .ok (.iconst 0, 1) := by decide +kernel
theorem dL_areTrialsSo_51 : decode cL_areTrialsSo 51 = .ok (.istore 7, 2) := by decide +kernel
theorem dL_areTrialsSo_53 : decode cL_areTrialsSo 53 = .ok (.iload_n 2, 1) := by decide +kernel
theorem dL_areTrialsSo_54 : decode cL_areTrialsSo 54 = .ok (.iconst (-1), 1) := by decide +kernel
theorem dL_areTrialsSo_55 : decode cL_areTrialsSo 55 = .ok (.if_icmp .lt 151, 3) := by decide +kernel
theorem dL_areTrialsSo_58 : decode cL_areTrialsSo 58 = .ok (.iload_n 2, 1) := by decide +kernel
theorem dL_areTrialsSo_59 : decode cL_areTrialsSo 59 = .ok (.sipush 200, 3) := by decide +kernel
theorem dL_areTrialsSo_62 : decode cL_areTrialsSo 62 = .ok (.if_icmp .gt 144, 3) := by decide +kernel
theorem dL_areTrialsSo_65 : decode cL_areTrialsSo 65 = .ok (.iload 7, 2) := by decide +kernel
theorem dL_areTrialsSo_67 : decode cL_areTrialsSo 67 = .ok (.ifCond .eq 20, 3) := by decide +kernel
theorem dL_areTrialsSo_70 : decode cL_areTrialsSo 70 = .ok (.iload_n 2, 1) := by decide +kernel
theorem dL_areTrialsSo_71 : decode cL_areTrialsSo 71 = .ok (.ifCond .lt 135, 3) := by decide +kernel
theorem dL_areTrialsSo_74 : decode cL_areTrialsSo 74 = .ok (.iload_n 2, 1) := by decide +kernel
theorem dL_areTrialsSo_75 : decode cL_areTrialsSo 75 = .ok (.aload_n 0, 1) := by decide +kernel
theorem dL_areTrialsSo_76 : decode cL_areTrialsSo 76 = .ok (.iload_n 1, 1) := by decide +kernel
theorem dL_areTrialsSo_77 : decode cL_areTrialsSo 77 = .ok (.iconst 5, 1) := by decide +kernel
theorem dL_areTrialsSo_78 : decode cL_areTrialsSo 78 = .ok (.invokevirtual 50, 3) := by decide +kernel
theorem dL_areTrialsSo_81 : decode cL_areTrialsSo 81 = .ok (.if_icmp .gt 125, 3) := by decide +kernel
theorem dL_areTrialsSo_84 : decode cL_areTrialsSo 84 = .ok (.goto 18, 3) := by decide +kernel
theorem dL_areTrialsSo_87 : decode cL_areTrialsSo 87 = .ok (.iload_n 2, 1) := by decide +kernel
theorem dL_areTrialsSo_88 : decode cL_areTrialsSo 88 = .ok (.iconst (-1), 1) := by decide +kernel
theorem dL_areTrialsSo_89 : decode cL_areTrialsSo 89 = .ok (.if_icmp .eq 13, 3) := by decide +kernel
theorem dL_areTrialsSo_92 : decode cL_areTrialsSo 92 = .ok (.iload_n 2, 1) := by decide +kernel
theorem dL_areTrialsSo_93 : decode cL_areTrialsSo 93 = .ok (.aload_n 0, 1) := by decide +kernel
theorem dL_areTrialsSo_94 : decode cL_areTrialsSo 94 = .ok (.iload_n 1, 1) := by decide +kernel
theorem dL_areTrialsSo_95 : decode cL_areTrialsSo 95 = .ok (.iconst 5, 1) := by decide +kernel
theorem dL_areTrialsSo_96 : decode cL_areTrialsSo 96 = .ok (.invokevirtual 50, 3) := by decide +kernel
theorem dL_areTrialsSo_99 : decode cL_areTrialsSo 99 = .ok (.if_icmp .le 107, 3) := by decide +kernel
theorem dL_areTrialsSo_102 : decode cL_areTrialsSo 102 = .ok (.iload_n 3, 1) := by decide +kernel
theorem dL_areTrialsSo_103 : decode cL_areTrialsSo 103 = .ok (.aload_n 0, 1) := by decide +kernel
theorem dL_areTrialsSo_104 : decode cL_areTrialsSo 104 = .ok (.iload_n 1, 1) := by decide +kernel
theorem dL_areTrialsSo_105 : decode cL_areTrialsSo 105 = .ok (.iconst 4, 1) := by decide +kernel
theorem dL_areTrialsSo_106 : decode cL_areTrialsSo 106 = .ok (.invokevirtual 50, 3) := by decide +kernel
theorem dL_areTrialsSo_109 : decode cL_areTrialsSo 109 = .ok (.ishr, 1) := by decide +kernel
theorem dL_areTrialsSo_110 : decode cL_areTrialsSo 110 = .ok (.iconst 1, 1) := by decide +kernel
theorem dL_areTrialsSo_111 : decode cL_areTrialsSo 111 = .ok (.iand, 1) := by decide +kernel
theorem dL_areTrialsSo_112 : decode cL_areTrialsSo 112 = .ok (.iload 7, 2) := by decide +kernel
theorem dL_areTrialsSo_114 : decode cL_areTrialsSo 114 = .ok (.ifCond .eq 7, 3) := by decide +kernel
theorem dL_areTrialsSo_117 : decode cL_areTrialsSo 117 = .ok (.iconst 1, 1) := by decide +kernel
theorem dL_areTrialsSo_118 : decode cL_areTrialsSo 118 = .ok (.goto 4, 3) := by decide +kernel
theorem dL_areTrialsSo_121 : decode cL_areTrialsSo 121 = .ok (.iconst 0, 1) := by decide +kernel
theorem dL_areTrialsSo_122 : decode cL_areTrialsSo 122 = .ok (.if_icmp .ne 84, 3) := by decide +kernel
theorem dL_areTrialsSo_125 : decode cL_areTrialsSo 125 = .ok (.iload_n 3, 1) := by decide +kernel
theorem dL_areTrialsSo_126 : decode cL_areTrialsSo 126 = .ok (.iconst 2, 1) := by decide +kernel
theorem dL_areTrialsSo_127 : decode cL_areTrialsSo 127 = .ok (.iand, 1) := by decide +kernel
theorem dL_areTrialsSo_128 : decode cL_areTrialsSo 128 = .ok (.ifCond .eq 9, 3) := by decide +kernel
theorem dL_areTrialsSo_131 : decode cL_areTrialsSo 131 = .ok (.iload_n 3, 1) := by decide +kernel
theorem dL_areTrialsSo_132 : decode cL_areTrialsSo 132 = .ok (.iconst 4, 1) := by decide +kernel
theorem dL_areTrialsSo_133 : decode cL_areTrialsSo 133 = .ok (.iand, 1) := by decide +kernel
theorem dL_areTrialsSo_134 : decode cL_areTrialsSo 134 = .ok (.ifCond .eq 72, 3) := by decide +kernel
theorem dL_areTrialsSo_137 : decode cL_areTrialsSo 137 = .ok (.iload_n 3, 1) := by decide +kernel
theorem dL_areTrialsSo_138 : decode cL_areTrialsSo 138 = .ok (.iconst 1, 1) := by decide +kernel
theorem dL_areTrialsSo_139 : decode cL_areTrialsSo 139 = .ok (.iand, 1) := by decide +kernel
theorem dL_areTrialsSo_140 : decode cL_areTrialsSo 140 = .ok (.ifCond .eq 9, 3) := by decide +kernel
theorem dL_areTrialsSo_143 : decode cL_areTrialsSo 143 = .ok (.iload_n 3, 1) := by decide +kernel
theorem dL_areTrialsSo_144 : decode cL_areTrialsSo 144 = .ok (.bipush 15, 2) := by decide +kernel
theorem dL_areTrialsSo_146 : decode cL_areTrialsSo 146 = .ok (.if_icmp .ne 60, 3) := by decide +kernel
theorem dL_areTrialsSo_149 : decode cL_areTrialsSo 149 = .ok (.iload 4, 2) := by decide +kernel
theorem dL_areTrialsSo_151 : decode cL_areTrialsSo 151 = .ok (.iconst (-1), 1) := by decide +kernel
theorem dL_areTrialsSo_152 : decode cL_areTrialsSo 152 = .ok (.if_icmp .eq 24, 3) := by decide +kernel
theorem dL_areTrialsSo_155 : decode cL_areTrialsSo 155 = .ok (.iload 4, 2) := by decide +kernel
theorem dL_areTrialsSo_157 : decode cL_areTrialsSo 157 = .ok (.bipush 10, 2) := by decide +kernel
theorem dL_areTrialsSo_159 : decode cL_areTrialsSo 159 = .ok (.if_icmp .lt 47, 3) := by decide +kernel
theorem dL_areTrialsSo_162 : decode cL_areTrialsSo 162 = .ok (.iload 4, 2) := by decide +kernel
theorem dL_areTrialsSo_164 : decode cL_areTrialsSo 164 = .ok (.bipush 100, 2) := by decide +kernel
theorem dL_areTrialsSo_166 : decode cL_areTrialsSo 166 = .ok (.if_icmp .gt 40, 3) := by decide +kernel
theorem dL_areTrialsSo_169 : decode cL_areTrialsSo 169 = .ok (.iload 4, 2) := by decide +kernel
theorem dL_areTrialsSo_171 : decode cL_areTrialsSo 171 = .ok (.iconst 5, 1) := by decide +kernel
theorem dL_areTrialsSo_172 : decode cL_areTrialsSo 172 = .ok (.irem, 1) := by decide +kernel
theorem dL_areTrialsSo_173 : decode cL_areTrialsSo 173 = .ok (.ifCond .ne 33, 3) := by decide +kernel
theorem dL_areTrialsSo_176 : decode cL_areTrialsSo 176 = .ok (.iload 5, 2) := by decide +kernel
theorem dL_areTrialsSo_178 : decode cL_areTrialsSo 178 = .ok (.ifCond .ne 12, 3) := by decide +kernel
theorem dL_areTrialsSo_181 : decode cL_areTrialsSo 181 = .ok (.iload 6, 2) := by decide +kernel
theorem dL_areTrialsSo_183 : decode cL_areTrialsSo 183 = .ok (.iconst (-1), 1) := by decide +kernel
theorem dL_areTrialsSo_184 : decode cL_areTrialsSo 184 = .ok (.if_icmp .ne 22, 3) := by decide +kernel
theorem dL_areTrialsSo_187 : decode cL_areTrialsSo 187 = .ok (.goto 15, 3) := by decide +kernel
theorem dL_areTrialsSo_190 : decode cL_areTrialsSo 190 = .ok (.iload 6, 2) := by decide +kernel
theorem dL_areTrialsSo_192 : decode cL_areTrialsSo 192 = .ok (.ifCond .lt 14, 3) := by decide +kernel
theorem dL_areTrialsSo_195 : decode cL_areTrialsSo 195 = .ok (.iload 6, 2) := by decide +kernel
theorem dL_areTrialsSo_197 : decode cL_areTrialsSo 197 = .ok (.iload 5, 2) := by decide +kernel
theorem dL_areTrialsSo_199 : decode cL_areTrialsSo 199 = .ok (.if_icmp .ge 7, 3) := by decide +kernel
theorem dL_areTrialsSo_202 : decode cL_areTrialsSo 202 = .ok (.iconst 1, 1) := by decide +kernel
theorem dL_areTrialsSo_203 : decode cL_areTrialsSo 203 = .ok (.goto 4, 3) := by decide +kernel
theorem dL_areTrialsSo_206 : decode cL_areTrialsSo 206 = .ok (.iconst 0, 1) := by decide +kernel
theorem dL_areTrialsSo_207 : decode cL_areTrialsSo 207 = .ok (.istore 8, 2) := by decide +kernel
theorem dL_areTrialsSo_209 : decode cL_areTrialsSo 209 = .ok (.iconst 0, 1) := by decide +kernel
theorem dL_areTrialsSo_210 : decode cL_areTrialsSo 210 = .ok (.istore 9, 2) := by decide +kernel
theorem dL_areTrialsSo_212 : decode cL_areTrialsSo 212 = .ok (.iload 9, 2) := by decide +kernel
theorem dL_areTrialsSo_214 : decode cL_areTrialsSo 214 = .ok (.iload 5, 2) := by decide +kernel
theorem dL_areTrialsSo_216 : decode cL_areTrialsSo 216 = .ok (.if_icmp .ge 51, 3) := by decide +kernel
theorem dL_areTrialsSo_219 : decode cL_areTrialsSo 219 = .ok (.iload 8, 2) := by decide +kernel
theorem dL_areTrialsSo_221 : decode cL_areTrialsSo 221 = .ok (.ifCond .eq 37, 3) := by decide +kernel
theorem dL_areTrialsSo_224 : decode cL_areTrialsSo 224 = .ok (.aload_n 0, 1) := by decide +kernel
theorem dL_areTrialsSo_225 : decode cL_areTrialsSo 225 = .ok (.iload_n 1, 1) := by decide +kernel
theorem dL_areTrialsSo_226 : decode cL_areTrialsSo 226 = .ok (.iload 9, 2) := by decide +kernel
theorem dL_areTrialsSo_228 : decode cL_areTrialsSo 228 = .ok (.invokevirtual 74, 3) := by decide +kernel
theorem dL_areTrialsSo_231 : decode cL_areTrialsSo 231 = .ok (.aload_n 0, 1) := by decide +kernel
theorem dL_areTrialsSo_232 : decode cL_areTrialsSo 232 = .ok (.iload_n 1, 1) := by decide +kernel
theorem dL_areTrialsSo_233 : decode cL_areTrialsSo 233 = .ok (.iload 9, 2) := by decide +kernel
theorem dL_areTrialsSo_235 : decode cL_areTrialsSo 235 = .ok (.iconst 1, 1) := by decide +kernel
theorem dL_areTrialsSo_236 : decode cL_areTrialsSo 236 = .ok (.invokevirtual 53, 3) := by decide +kernel
theorem dL_areTrialsSo_239 : decode cL_areTrialsSo 239 = .ok (.if_icmp .lt 19, 3) := by decide +kernel
theorem dL_areTrialsSo_242 : decode cL_areTrialsSo 242 = .ok (.aload_n 0, 1) := by decide +kernel
theorem dL_areTrialsSo_243 : decode cL_areTrialsSo 243 = .ok (.iload_n 1, 1) := by decide +kernel
theorem dL_areTrialsSo_244 : decode cL_areTrialsSo 244 = .ok (.iload 9, 2) := by decide +kernel
theorem dL_areTrialsSo_246 : decode cL_areTrialsSo 246 = .ok (.invokevirtual 74, 3) := by decide +kernel
theorem dL_areTrialsSo_249 : decode cL_areTrialsSo 249 = .ok (.bipush 11, 2) := by decide +kernel
theorem dL_areTrialsSo_251 : decode cL_areTrialsSo 251 = .ok (.if_icmp .ge 7, 3) := by decide +kernel
theorem dL_areTrialsSo_254 : decode cL_areTrialsSo 254 = .ok (.iconst 1, 1) := by decide +kernel
theorem dL_areTrialsSo_255 : decode cL_areTrialsSo 255 = .ok (.goto 4, 3) := by decide +kernel
theorem dL_areTrialsSo_258 : decode cL_areTrialsSo 258 = .ok (.iconst 0, 1) := by decide +kernel
theorem dL_areTrialsSo_259 : decode cL_areTrialsSo 259 = .ok (.istore 8, 2) := by decide +kernel
theorem dL_areTrialsSo_261 : decode cL_areTrialsSo 261 = .ok (.iinc 9 1, 3) := by decide +kernel
theorem dL_areTrialsSo_264 : decode cL_areTrialsSo 264 = .ok (.goto (-52), 3) := by decide +kernel
theorem dL_areTrialsSo_267 : decode cL_areTrialsSo 267 = .ok (.iload 8, 2) := by decide +kernel
theorem dL_areTrialsSo_269 : decode cL_areTrialsSo 269 = .ok (.ifCond .eq 28, 3) := by decide +kernel
theorem dL_areTrialsSo_272 : decode cL_areTrialsSo 272 = .ok (.aload_n 0, 1) := by decide +kernel
theorem dL_areTrialsSo_273 : decode cL_areTrialsSo 273 = .ok (.iload_n 1, 1) := by decide +kernel
theorem dL_areTrialsSo_274 : decode cL_areTrialsSo 274 = .ok (.iconst 0, 1) := by decide +kernel
theorem dL_areTrialsSo_275 : decode cL_areTrialsSo 275 = .ok (.invokevirtual 50, 3) := by decide +kernel
theorem dL_areTrialsSo_278 : decode cL_areTrialsSo 278 = .ok (.iconst 5, 1) := by decide +kernel
theorem dL_areTrialsSo_279 : decode cL_areTrialsSo 279 = .ok (.irem, 1) := by decide +kernel
theorem dL_areTrialsSo_280 : decode cL_areTrialsSo 280 = .ok (.ifCond .ne 13, 3) := by decide +kernel
theorem dL_areTrialsSo_283 : decode cL_areTrialsSo 283 = .ok (.iload 7, 2) := by decide +kernel
theorem dL_areTrialsSo_285 : decode cL_areTrialsSo 285 = .ok (.ifCond .eq 8, 3) := by decide +kernel
theorem dL_areTrialsSo_288 : decode cL_areTrialsSo 288 = .ok (.iload 4, 2) := by decide +kernel
theorem dL_areTrialsSo_290 : decode cL_areTrialsSo 290 = .ok (.ifCond .le 7, 3) := by decide +kernel
theorem dL_areTrialsSo_293 : decode cL_areTrialsSo 293 = .ok (.iconst 1, 1) := by decide +kernel
theorem dL_areTrialsSo_294 : decode cL_areTrialsSo 294 = .ok (.goto 4, 3) := by decide +kernel
theorem dL_areTrialsSo_297 : decode cL_areTrialsSo 297 = .ok (.iconst 0, 1) := by decide +kernel
theorem dL_areTrialsSo_298 : decode cL_areTrialsSo 298 = .ok (.ireturn, 1) := by decide +kernel
set_option maxRecDepth 20000 in
theorem ggL_areSums_X5_ladder : GoodIn wsL_areSums wsX5_ladder := goodIn_ca (goodIn_ca (goodIn_r _ [5, 6, 7, 8, 9, 10, 11, 12, 13, 14, 15, 16, 17, 18, 4, 19, 20, 21, 22, 23, 24, 25, 26, 27, 28, 29, 30, 31, 32, 33, 34, 35, 36, 37, 38, 39, 40, 41, 42, 43, 44, 45, 46, 47, 48, 49, 50, 51, 52, 53, 54, 55, 56, 57, 58, 59, 60, 61, 62, 63, 64, 65, 66, 67, 68, 69, 70, 71, 72, 73, 74, 75, 76, 77, 78, 129, 130, 131, 132, 133, 134, 135, 136, 137, 138, 139, 140, 141, 142, 143, 144, 145] (by decide +kernel) (by decide +kernel)) (goodIn_sub (fun _ h => List.mem_cons_of_mem _ (List.mem_append_left _ (List.mem_append_right _ h))) (by decide +kernel))) (goodIn_sub (fun _ h => List.mem_cons_of_mem _ (List.mem_append_right _ h)) (by decide +kernel))
set_option maxRecDepth 20000 in
theorem gL_areSums_X5_ladder : GoodIn wsL_areSums (wsV RL 50 RX5 yX5_ladder wsX5_ladder) := goodIn_app (goodIn_of _ (by decide +kernel)) ggL_areSums_X5_ladder
set_option maxRecDepth 20000 in
theorem ggL_areSums_X5_person : GoodIn wsL_areSums wsX5_person := goodIn_ca (goodIn_ca (goodIn_r _ [82, 6, 7, 16, 17, 18, 4, 19, 20, 21, 22, 23, 83, 84, 85, 86, 87, 88, 27, 89, 90, 91, 92, 93, 94, 30, 95, 96, 97, 98, 99, 35, 139, 140, 141, 142, 143, 144, 145, 129, 130, 131, 132, 133, 134, 135, 136, 137, 138] (by decide +kernel) (by decide +kernel)) (goodIn_sub (fun _ h => List.mem_cons_of_mem _ (List.mem_append_left _ (List.mem_append_right _ h))) (by decide +kernel))) (goodIn_sub (fun _ h => List.mem_cons_of_mem _ (List.mem_append_right _ h)) (by decide +kernel))
set_option maxRecDepth 20000 in
theorem gL_areSums_X5_person : GoodIn wsL_areSums (wsV RL 53 RX5 yX5_person wsX5_person) := goodIn_app (goodIn_of _ (by decide +kernel)) ggL_areSums_X5_person
set_option maxRecDepth 20000 in
theorem ggL_areSums_X5_count : GoodIn wsL_areSums wsX5_count := goodIn_ca (goodIn_r _ [103, 6, 7, 22, 104, 105, 106, 107, 108, 109, 110, 111, 112, 113, 114, 38, 39, 27, 40, 41, 42, 43, 44, 45, 46, 47, 48, 49, 50, 51, 52, 53, 54, 36, 55, 56, 57, 58, 59, 32, 33, 34, 29, 35, 30, 60, 61, 62, 63, 64, 65, 66, 67, 68, 69, 70, 71, 72, 73, 74, 25, 26, 28, 75, 76, 77, 78, 115, 116, 117, 118, 119, 120, 121, 122, 123, 124, 139, 140, 141, 142, 143, 144, 145, 146, 147, 148, 129, 130, 131, 132, 133, 134, 135, 136, 137, 138] (by decide +kernel) (by decide +kernel)) (goodIn_sub (fun _ h => List.mem_cons_of_mem _ (List.mem_append_left _ (List.mem_append_right _ h))) (by decide +kernel))
set_option maxRecDepth 20000 in
theorem gL_areSums_X5_count : GoodIn wsL_areSums (wsV RL 46 RX5 yX5_count wsX5_count) := goodIn_app (goodIn_of _ (by decide +kernel)) ggL_areSums_X5_count
set_option maxRecDepth 20000 in
theorem ggL_areSums_X5_safety : GoodIn wsL_areSums wsX5_safety := goodIn_r _ [128, 22, 104, 115, 116, 117, 111, 118, 113, 119, 139, 140, 141, 142, 143, 144, 145, 129, 130, 131, 132, 133, 134, 135, 136, 137, 138] (by decide +kernel) (by decide +kernel)
set_option maxRecDepth 20000 in
theorem gL_areSums_X5_safety : GoodIn wsL_areSums (wsV RL 77 RX5 yX5_safety wsX5_safety) := goodIn_app (goodIn_of _ (by decide +kernel)) ggL_areSums_X5_safety
theorem dL_areSums_0 : decode cL_areSums 0 = .ok (.iconst 0, 1) := by decide +kernel
theorem dL_areSums_1 : decode cL_areSums 1 = .ok (.istore_n 1, 1) := by decide +kernel
theorem dL_areSums_2 : decode cL_areSums 2 = .ok (.iconst 0, 1) := by decide +kernel
theorem dL_areSums_3 : decode cL_areSums 3 = .ok (.istore_n 2, 1) := by decide +kernel
theorem dL_areSums_4 : decode cL_areSums 4 = .ok (.iconst 0, 1) := by decide +kernel
theorem dL_areSums_5 : decode cL_areSums 5 = .ok (.istore_n 3, 1) := by decide +kernel
theorem dL_areSums_6 : decode cL_areSums 6 = .ok (.iconst 1, 1) := by decide +kernel
theorem dL_areSums_7 : decode cL_areSums 7 = .ok (.istore 4, 2) := by decide +kernel
theorem dL_areSums_9 : decode cL_areSums 9 = .ok (.iconst 0, 1) := by decide +kernel
theorem dL_areSums_10 : decode cL_areSums 10 = .ok (.istore 5, 2) := by decide +kernel
theorem dL_areSums_12 : decode cL_areSums 12 = .ok (.iload 5, 2) := by decide +kernel
theorem dL_areSums_14 : decode cL_areSums 14 = .ok (.iconst 4, 1) := by decide +kernel
theorem dL_areSums_15 : decode cL_areSums 15 = .ok (.if_icmp .ge 166, 3) := by decide +kernel
theorem dL_areSums_18 : decode cL_areSums 18 = .ok (.iload_n 1, 1) := by decide +kernel
end
section
theorem dL_areSums_19 : decode cL_areSums 19 = .ok (.aload_n 0, 1) := by decide +kernel
theorem dL_areSums_20 : decode cL_areSums 20 = .ok (.iload 5, 2) := by decide +kernel
theorem dL_areSums_22 : decode cL_areSums 22 = .ok (.bipush 6, 2) := by decide +kernel
theorem dL_areSums_24 : decode cL_areSums 24 = .ok (.invokevirtual 50, 3) := by decide +kernel
theorem dL_areSums_27 : decode cL_areSums 27 = .ok (.iadd, 1) := by decide +kernel
theorem dL_areSums_28 : decode cL_areSums 28 = .ok (.istore_n 1, 1) := by decide +kernel
theorem dL_areSums_29 : decode cL_areSums 29 = .ok (.iload_n 2, 1) := by decide +kernel
theorem dL_areSums_30 : decode cL_areSums 30 = .ok (.aload_n 0, 1) := by decide +kernel
theorem dL_areSums_31 : decode cL_areSums 31 = .ok (.iload 5, 2) := by decide +kernel
theorem dL_areSums_33 : decode cL_areSums 33 = .ok (.bipush 9, 2) := by decide +kernel
theorem dL_areSums_35 : decode cL_areSums 35 = .ok (.invokevirtual 50, 3) := by decide +kernel
theorem dL_areSums_38 : decode cL_areSums 38 = .ok (.iadd, 1) := by decide +kernel
theorem dL_areSums_39 : decode cL_areSums 39 = .ok (.istore_n 2, 1) := by decide +kernel
theorem dL_areSums_40 : decode cL_areSums 40 = .ok (.iload_n 3, 1) := by decide +kernel
theorem dL_areSums_41 : decode cL_areSums 41 = .ok (.aload_n 0, 1) := by decide +kernel
theorem dL_areSums_42 : decode cL_areSums 42 = .ok (.iload 5, 2) := by decide +kernel
theorem dL_areSums_44 : decode cL_areSums 44 = .ok (.bipush 10, 2) := by decide +kernel
theorem dL_areSums_46 : decode cL_areSums 46 = .ok (.invokevirtual 50, 3) := by decide +kernel
theorem dL_areSums_49 : decode cL_areSums 49 = .ok (.iadd, 1) := by decide +kernel
theorem dL_areSums_50 : decode cL_areSums 50 = .ok (.istore_n 3, 1) := by decide +kernel
theorem dL_areSums_51 : decode cL_areSums 51 = .ok (.iload 4, 2) := by decide +kernel
theorem dL_areSums_53 : decode cL_areSums 53 = .ok (.ifCond .eq 30, 3) := by decide +kernel
theorem dL_areSums_56 : decode cL_areSums 56 = .ok (.aload_n 0, 1) := by decide +kernel
theorem dL_areSums_57 : decode cL_areSums 57 = .ok (.iload 5, 2) := by decide +kernel
theorem dL_areSums_59 : decode cL_areSums 59 = .ok (.bipush 6, 2) := by decide +kernel
theorem dL_areSums_61 : decode cL_areSums 61 = .ok (.invokevirtual 50, 3) := by decide +kernel
theorem dL_areSums_64 : decode cL_areSums 64 = .ok (.ifCond .lt 19, 3) := by decide +kernel
theorem dL_areSums_67 : decode cL_areSums 67 = .ok (.aload_n 0, 1) := by decide +kernel
theorem dL_areSums_68 : decode cL_areSums 68 = .ok (.iload 5, 2) := by decide +kernel
theorem dL_areSums_70 : decode cL_areSums 70 = .ok (.bipush 6, 2) := by decide +kernel
theorem dL_areSums_72 : decode cL_areSums 72 = .ok (.invokevirtual 50, 3) := by decide +kernel
theorem dL_areSums_75 : decode cL_areSums 75 = .ok (.iconst 4, 1) := by decide +kernel
theorem dL_areSums_76 : decode cL_areSums 76 = .ok (.if_icmp .ge 7, 3) := by decide +kernel
theorem dL_areSums_79 : decode cL_areSums 79 = .ok (.iconst 1, 1) := by decide +kernel
theorem dL_areSums_80 : decode cL_areSums 80 = .ok (.goto 4, 3) := by decide +kernel
theorem dL_areSums_83 : decode cL_areSums 83 = .ok (.iconst 0, 1) := by decide +kernel
theorem dL_areSums_84 : decode cL_areSums 84 = .ok (.istore 4, 2) := by decide +kernel
theorem dL_areSums_86 : decode cL_areSums 86 = .ok (.iconst 0, 1) := by decide +kernel
theorem dL_areSums_87 : decode cL_areSums 87 = .ok (.istore 6, 2) := by decide +kernel
theorem dL_areSums_89 : decode cL_areSums 89 = .ok (.iload 6, 2) := by decide +kernel
theorem dL_areSums_91 : decode cL_areSums 91 = .ok (.aload_n 0, 1) := by decide +kernel
theorem dL_areSums_92 : decode cL_areSums 92 = .ok (.iload 5, 2) := by decide +kernel
theorem dL_areSums_94 : decode cL_areSums 94 = .ok (.bipush 6, 2) := by decide +kernel
theorem dL_areSums_96 : decode cL_areSums 96 = .ok (.invokevirtual 50, 3) := by decide +kernel
theorem dL_areSums_99 : decode cL_areSums 99 = .ok (.if_icmp .ge 76, 3) := by decide +kernel
theorem dL_areSums_102 : decode cL_areSums 102 = .ok (.iload 4, 2) := by decide +kernel
theorem dL_areSums_104 : decode cL_areSums 104 = .ok (.ifCond .eq 62, 3) := by decide +kernel
theorem dL_areSums_107 : decode cL_areSums 107 = .ok (.aload_n 0, 1) := by decide +kernel
theorem dL_areSums_108 : decode cL_areSums 108 = .ok (.iload 5, 2) := by decide +kernel
theorem dL_areSums_110 : decode cL_areSums 110 = .ok (.iload 6, 2) := by decide +kernel
theorem dL_areSums_112 : decode cL_areSums 112 = .ok (.iconst 0, 1) := by decide +kernel
theorem dL_areSums_113 : decode cL_areSums 113 = .ok (.invokevirtual 53, 3) := by decide +kernel
theorem dL_areSums_116 : decode cL_areSums 116 = .ok (.bipush 19, 2) := by decide +kernel
theorem dL_areSums_118 : decode cL_areSums 118 = .ok (.if_icmp .le 48, 3) := by decide +kernel
theorem dL_areSums_121 : decode cL_areSums 121 = .ok (.aload_n 0, 1) := by decide +kernel
theorem dL_areSums_122 : decode cL_areSums 122 = .ok (.iload 5, 2) := by decide +kernel
theorem dL_areSums_124 : decode cL_areSums 124 = .ok (.iload 6, 2) := by decide +kernel
theorem dL_areSums_126 : decode cL_areSums 126 = .ok (.iconst 0, 1) := by decide +kernel
theorem dL_areSums_127 : decode cL_areSums 127 = .ok (.invokevirtual 53, 3) := by decide +kernel
theorem dL_areSums_130 : decode cL_areSums 130 = .ok (.sipush 151, 3) := by decide +kernel
theorem dL_areSums_133 : decode cL_areSums 133 = .ok (.if_icmp .ge 33, 3) := by decide +kernel
theorem dL_areSums_136 : decode cL_areSums 136 = .ok (.aload_n 0, 1) := by decide +kernel
theorem dL_areSums_137 : decode cL_areSums 137 = .ok (.iload 5, 2) := by decide +kernel
theorem dL_areSums_139 : decode cL_areSums 139 = .ok (.iload 6, 2) := by decide +kernel
theorem dL_areSums_141 : decode cL_areSums 141 = .ok (.iconst 1, 1) := by decide +kernel
theorem dL_areSums_142 : decode cL_areSums 142 = .ok (.invokevirtual 53, 3) := by decide +kernel
theorem dL_areSums_145 : decode cL_areSums 145 = .ok (.ifCond .lt 21, 3) := by decide +kernel
theorem dL_areSums_148 : decode cL_areSums 148 = .ok (.aload_n 0, 1) := by decide +kernel
theorem dL_areSums_149 : decode cL_areSums 149 = .ok (.iload 5, 2) := by decide +kernel
theorem dL_areSums_151 : decode cL_areSums 151 = .ok (.iload 6, 2) := by decide +kernel
theorem dL_areSums_153 : decode cL_areSums 153 = .ok (.iconst 1, 1) := by decide +kernel
theorem dL_areSums_154 : decode cL_areSums 154 = .ok (.invokevirtual 53, 3) := by decide +kernel
theorem dL_areSums_157 : decode cL_areSums 157 = .ok (.bipush 11, 2) := by decide +kernel
theorem dL_areSums_159 : decode cL_areSums 159 = .ok (.if_icmp .ge 7, 3) := by decide +kernel
theorem dL_areSums_162 : decode cL_areSums 162 = .ok (.iconst 1, 1) := by decide +kernel
theorem dL_areSums_163 : decode cL_areSums 163 = .ok (.goto 4, 3) := by decide +kernel
theorem dL_areSums_166 : decode cL_areSums 166 = .ok (.iconst 0, 1) := by decide +kernel
theorem dL_areSums_167 : decode cL_areSums 167 = .ok (.istore 4, 2) := by decide +kernel
theorem dL_areSums_169 : decode cL_areSums 169 = .ok (.iinc 6 1, 3) := by decide +kernel
theorem dL_areSums_172 : decode cL_areSums 172 = .ok (.goto (-83), 3) := by decide +kernel
theorem dL_areSums_175 : decode cL_areSums 175 = .ok (.iinc 5 1, 3) := by decide +kernel
theorem dL_areSums_178 : decode cL_areSums 178 = .ok (.goto (-166), 3) := by decide +kernel
theorem dL_areSums_181 : decode cL_areSums 181 = .ok (.aload_n 0, 1) := by decide +kernel
theorem dL_areSums_182 : decode cL_areSums 182 = .ok (.iconst 3, 1) := by decide +kernel
theorem dL_areSums_183 : decode cL_areSums 183 = .ok (.invokevirtual 46, 3) := by decide +kernel
theorem dL_areSums_186 : decode cL_areSums 186 = .ok (.istore 5, 2) := by decide +kernel
theorem dL_areSums_188 : decode cL_areSums 188 = .ok (.iload_n 1, 1) := by decide +kernel
theorem dL_areSums_189 : decode cL_areSums 189 = .ok (.iload 5, 2) := by decide +kernel
theorem dL_areSums_191 : decode cL_areSums 191 = .ok (.iadd, 1) := by decide +kernel
theorem dL_areSums_192 : decode cL_areSums 192 = .ok (.ifCond .ne 7, 3) := by decide +kernel
theorem dL_areSums_195 : decode cL_areSums 195 = .ok (.dconst 1, 1) := by decide +kernel
theorem dL_areSums_196 : decode cL_areSums 196 = .ok (.goto 13, 3) := by decide +kernel
theorem dL_areSums_199 : decode cL_areSums 199 = .ok (.iload_n 1, 1) := by decide +kernel
theorem dL_areSums_200 : decode cL_areSums 200 = .ok (.i2d, 1) := by decide +kernel
theorem dL_areSums_201 : decode cL_areSums 201 = .ok (.dconst 1, 1) := by decide +kernel
theorem dL_areSums_202 : decode cL_areSums 202 = .ok (.dmul, 1) := by decide +kernel
theorem dL_areSums_203 : decode cL_areSums 203 = .ok (.iload_n 1, 1) := by decide +kernel
theorem dL_areSums_204 : decode cL_areSums 204 = .ok (.iload 5, 2) := by decide +kernel
theorem dL_areSums_206 : decode cL_areSums 206 = .ok (.iadd, 1) := by decide +kernel
theorem dL_areSums_207 : decode cL_areSums 207 = .ok (.i2d, 1) := by decide +kernel
theorem dL_areSums_208 : decode cL_areSums 208 = .ok (.ddiv, 1) := by decide +kernel
theorem dL_areSums_209 : decode cL_areSums 209 = .ok (.dstore 6, 2) := by decide +kernel
theorem dL_areSums_211 : decode cL_areSums 211 = .ok (.iload 4, 2) := by decide +kernel
theorem dL_areSums_213 : decode cL_areSums 213 = .ok (.ifCond .eq 58, 3) := by decide +kernel
theorem dL_areSums_216 : decode cL_areSums 216 = .ok (.iload_n 1, 1) := by decide +kernel
theorem dL_areSums_217 : decode cL_areSums 217 = .ok (.aload_n 0, 1) := by decide +kernel
theorem dL_areSums_218 : decode cL_areSums 218 = .ok (.iconst 1, 1) := by decide +kernel
theorem dL_areSums_219 : decode cL_areSums 219 = .ok (.invokevirtual 46, 3) := by decide +kernel
theorem dL_areSums_222 : decode cL_areSums 222 = .ok (.if_icmp .ne 49, 3) := by decide +kernel
theorem dL_areSums_225 : decode cL_areSums 225 = .ok (.iload_n 2, 1) := by decide +kernel
theorem dL_areSums_226 : decode cL_areSums 226 = .ok (.aload_n 0, 1) := by decide +kernel
theorem dL_areSums_227 : decode cL_areSums 227 = .ok (.iconst 2, 1) := by decide +kernel
theorem dL_areSums_228 : decode cL_areSums 228 = .ok (.invokevirtual 46, 3) := by decide +kernel
theorem dL_areSums_231 : decode cL_areSums 231 = .ok (.if_icmp .ne 40, 3) := by decide +kernel
theorem dL_areSums_234 : decode cL_areSums 234 = .ok (.iload_n 3, 1) := by decide +kernel
theorem dL_areSums_235 : decode cL_areSums 235 = .ok (.aload_n 0, 1) := by decide +kernel
theorem dL_areSums_236 : decode cL_areSums 236 = .ok (.iconst 0, 1) := by decide +kernel
theorem dL_areSums_237 : decode cL_areSums 237 = .ok (.invokevirtual 46, 3) := by decide +kernel
theorem dL_areSums_240 : decode cL_areSums 240 = .ok (.if_icmp .ne 31, 3) := by decide +kernel
theorem dL_areSums_243 : decode cL_areSums 243 = .ok (.iload 5, 2) := by decide +kernel
theorem dL_areSums_245 : decode cL_areSums 245 = .ok (.iload_n 2, 1) := by decide +kernel
theorem dL_areSums_246 : decode cL_areSums 246 = .ok (.if_icmp .lt 25, 3) := by decide +kernel
theorem dL_areSums_249 : decode cL_areSums 249 = .ok (.iload 5, 2) := by decide +kernel
theorem dL_areSums_251 : decode cL_areSums 251 = .ok (.iconst 3, 1) := by decide +kernel
theorem dL_areSums_252 : decode cL_areSums 252 = .ok (.iload_n 2, 1) := by decide +kernel
theorem dL_areSums_253 : decode cL_areSums 253 = .ok (.imul, 1) := by decide +kernel
theorem dL_areSums_254 : decode cL_areSums 254 = .ok (.if_icmp .gt 17, 3) := by decide +kernel
theorem dL_areSums_257 : decode cL_areSums 257 = .ok (.aload_n 0, 1) := by decide +kernel
theorem dL_areSums_258 : decode cL_areSums 258 = .ok (.invokevirtual 77, 3) := by decide +kernel
theorem dL_areSums_261 : decode cL_areSums 261 = .ok (.dload 6, 2) := by decide +kernel
theorem dL_areSums_263 : decode cL_areSums 263 = .ok (.dcmp .l, 1) := by decide +kernel
theorem dL_areSums_264 : decode cL_areSums 264 = .ok (.ifCond .ne 7, 3) := by decide +kernel
theorem dL_areSums_267 : decode cL_areSums 267 = .ok (.iconst 1, 1) := by decide +kernel
theorem dL_areSums_268 : decode cL_areSums 268 = .ok (.goto 4, 3) := by decide +kernel
theorem dL_areSums_271 : decode cL_areSums 271 = .ok (.iconst 0, 1) := by decide +kernel
theorem dL_areSums_272 : decode cL_areSums 272 = .ok (.ireturn, 1) := by decide +kernel
set_option maxRecDepth 20000 in
theorem ggL_law_X5_init : GoodIn wsL_law wsX5_init := goodIn_r _ [6, 7, 8, 9, 10, 11, 12, 13, 14, 15, 16, 17, 18, 19, 20, 21, 22, 23, 24, 25, 26, 27, 28, 29, 30, 31, 32, 33, 34, 35, 36, 37, 38, 39, 40, 41, 42, 43, 44, 3, 45, 46, 47, 48, 49, 50, 51, 52, 53, 54, 55, 56, 57, 58, 59, 60, 61, 62, 63, 64, 65, 66, 67, 68, 69, 70, 71, 72, 73, 74, 360, 361, 362, 356, 357, 358, 359, 363, 364, 365, 366, 367, 368, 369, 370, 371, 372, 373, 374, 375, 376, 377, 378, 379, 380, 381, 382, 383, 384, 385] (by decide +kernel) (by decide +kernel)
set_option maxRecDepth 20000 in
theorem gL_law_X5_init : GoodIn wsL_law (wsX5_init) := ggL_law_X5_init
set_option maxRecDepth 20000 in
theorem ggL_law_L_cell : GoodIn wsL_law wsL_cell := goodIn_r _ [78] (by decide +kernel) (by decide +kernel)
set_option maxRecDepth 20000 in
theorem gL_law_L_cell : GoodIn wsL_law (va_wsS RL 82 yL_cell wsL_cell) := goodIn_app (goodIn_of _ (by decide +kernel)) ggL_law_L_cell
set_option maxRecDepth 20000 in
theorem ggL_law_X5_count : GoodIn wsL_law wsX5_count := goodIn_ca (goodIn_r _ [82, 83, 84, 13, 85, 86, 17, 87, 88, 89, 90, 12, 91, 31, 92, 93, 94, 24, 95, 96, 97, 98, 99, 100, 101, 102, 103, 104, 105, 106, 107, 41, 38, 37, 108, 109, 110, 111, 112, 113, 114, 115, 39, 46, 45, 116, 117, 118, 119, 120, 121, 122, 123, 42, 124, 125, 126, 127, 40, 128, 129, 130, 131, 132, 133, 134, 135, 136, 137, 138, 139, 140, 141, 142, 143, 144, 145, 356, 357, 358, 359, 360, 361, 362, 363, 364, 365, 370, 371, 372, 373, 374, 375, 376, 377, 378, 379] (by decide +kernel) (by decide +kernel)) (goodIn_sub (fun _ h => List.mem_append_left _ (List.mem_append_left _ (List.mem_append_right _ h))) (by decide +kernel))
set_option maxRecDepth 20000 in
theorem gL_law_X5_count : GoodIn wsL_law (wsV RL 46 RX5 yX5_count wsX5_count) := goodIn_app (goodIn_of _ (by decide +kernel)) ggL_law_X5_count
set_option maxRecDepth 20000 in
theorem ggL_law_L_act : GoodIn wsL_law wsL_act := goodIn_ca (goodIn_ca (goodIn_ca (goodIn_r _ [148, 149, 150, 77, 151, 152, 153, 154, 155, 156, 157, 158, 159, 160, 161, 2, 162, 17, 13, 163, 164, 165, 166, 167, 168, 169, 170, 171, 172, 173, 174, 175, 83, 84, 176, 177, 178, 16, 179, 53, 52, 54, 180, 181, 102, 182, 183, 184, 185, 12, 186, 31, 32, 33, 187, 188, 189, 24, 190, 37, 38, 39, 40, 41, 42, 43, 44, 45, 46, 191, 192, 193, 194, 140, 92, 93, 94, 95, 96, 97, 98, 99, 100, 101, 103, 104, 105, 106, 107, 108, 109, 110, 111, 112, 113, 114, 115, 116, 117, 118, 119, 120, 121, 122, 123, 124, 125, 126, 127, 128, 129, 130, 131, 132, 133, 134, 135, 195, 196, 197, 198, 145, 199, 200, 201, 202, 203, 204, 205, 206, 207, 208, 209, 210, 211, 212, 213, 214, 215, 216, 217, 218, 219, 220, 221, 222, 223, 224, 225, 226, 227, 228, 229, 230, 231, 232, 233, 234, 235, 236, 237, 238, 239, 240, 241, 242, 243, 244, 245, 246, 247, 248, 249, 250, 251, 252, 253, 254, 255, 256, 257, 258, 259, 260, 261, 262, 263, 356, 357, 358, 359, 370, 371, 372, 373, 374, 375, 376, 377, 378, 379, 360, 361, 362, 363, 364, 365] (by decide +kernel) (by decide +kernel)) (goodIn_sub (fun _ h => List.mem_append_left _ (List.mem_append_right _ h)) (by decide +kernel))) (goodIn_sub (fun _ h => List.mem_append_left _ (List.mem_append_left _ (List.mem_append_right _ h))) (by decide +kernel))) (goodIn_sub (fun _ h => List.mem_append_right _ h) (by decide +kernel))
set_option maxRecDepth 20000 in
theorem gL_law_L_act : GoodIn wsL_law (va_wsS RL 86 yL_act wsL_act) := goodIn_app (goodIn_of _ (by decide +kernel)) ggL_law_L_act
set_option maxRecDepth 20000 in
theorem ggL_law_L_areAlike : GoodIn wsL_law wsL_areAlike := goodIn_ca (goodIn_ca (goodIn_r _ [266, 79, 80, 81, 2, 82, 83, 84, 13, 85, 86, 17, 87, 88, 89, 90, 12, 91, 31, 92, 93, 94, 24, 95, 96, 97, 98, 99, 100, 101, 102, 103, 104, 105, 106, 107, 41, 38, 37, 108, 109, 110, 111, 112, 113, 114, 115, 39, 46, 45, 116, 117, 118, 119, 120, 121, 122, 123, 42, 124, 125, 126, 127, 40, 128, 129, 130, 131, 132, 133, 134, 135, 136, 137, 138, 139, 140, 141, 142, 143, 144, 145, 267, 268, 269, 270, 163, 164, 165, 207, 208, 213, 220, 271, 166, 167, 168, 169, 170, 171, 172, 272, 273, 274, 275, 276, 277, 278, 233, 234, 235, 236, 237, 238, 239, 44, 279, 280, 281, 282, 244, 283, 257, 258, 259, 356, 357, 358, 359, 360, 361, 362, 363, 364, 365, 370, 371, 372, 373, 374, 375, 376, 377, 378, 379] (by decide +kernel) (by decide +kernel)) (goodIn_sub (fun _ h => List.mem_append_left _ (List.mem_append_left _ (List.mem_append_right _ h))) (by decide +kernel))) (goodIn_sub (fun _ h => List.mem_append_left _ (List.mem_append_right _ h)) (by decide +kernel))
set_option maxRecDepth 20000 in
theorem gL_law_L_areAlike : GoodIn wsL_law (va_wsS RL 90 yL_areAlike wsL_areAlike) := goodIn_app (goodIn_of _ (by decide +kernel)) ggL_law_L_areAlike
set_option maxRecDepth 20000 in
theorem ggL_law_X5_undo : GoodIn wsL_law wsX5_undo := goodIn_ca (goodIn_r _ [287, 218, 219, 17, 87, 13, 288, 289, 290, 16, 291, 53, 54, 52, 183, 184, 185, 12, 186, 31, 32, 33, 187, 188, 189, 24, 190, 37, 38, 39, 40, 41, 42, 43, 44, 45, 46, 356, 357, 358, 359, 363, 364, 365, 360, 361, 362, 370, 371, 372, 373, 374, 375, 376, 377, 378, 379] (by decide +kernel) (by decide +kernel)) (goodIn_sub (fun _ h => List.mem_append_right _ h) (by decide +kernel))
set_option maxRecDepth 20000 in
theorem gL_law_X5_undo : GoodIn wsL_law (wsV RL 94 RX5 yX5_undo wsX5_undo) := goodIn_app (goodIn_of _ (by decide +kernel)) ggL_law_X5_undo
set_option maxRecDepth 20000 in
theorem ggL_law_L_areSums : GoodIn wsL_law wsL_areSums := goodIn_ca (goodIn_ca (goodIn_r _ [294, 267, 268, 269, 2, 270, 83, 84, 163, 164, 165, 207, 208, 213, 220, 271, 166, 167, 168, 169, 170, 171, 13, 172, 272, 129, 130, 24, 131, 39, 45, 273, 113, 114, 115, 46, 37, 274, 93, 94, 95, 96, 97, 98, 99, 100, 101, 102, 103, 104, 105, 106, 107, 41, 38, 108, 109, 110, 111, 112, 116, 117, 118, 119, 120, 121, 122, 123, 42, 124, 125, 126, 127, 40, 128, 132, 133, 134, 135, 275, 276, 277, 278, 233, 234, 235, 236, 237, 238, 239, 44, 279, 280, 281, 282, 244, 283, 257, 258, 259, 79, 80, 81, 82, 85, 86, 17, 87, 88, 89, 90, 12, 91, 31, 92, 136, 137, 138, 139, 140, 141, 142, 143, 144, 145, 295, 296, 297, 298, 370, 371, 372, 373, 374, 375, 376, 377, 378, 379, 356, 357, 358, 359, 360, 361, 362, 363, 364, 365] (by decide +kernel) (by decide +kernel)) (goodIn_sub (fun _ h => List.mem_append_left _ (List.mem_append_left _ (List.mem_append_right _ h))) (by decide +kernel))) (goodIn_sub (fun _ h => List.mem_append_left _ (List.mem_append_right _ h)) (by decide +kernel))
set_option maxRecDepth 20000 in
theorem gL_law_L_areSums : GoodIn wsL_law (va_wsS RL 98 yL_areSums wsL_areSums) := goodIn_app (goodIn_of _ (by decide +kernel)) ggL_law_L_areSums
set_option maxRecDepth 20000 in
theorem ggL_law_L_low : GoodIn wsL_law wsL_low := goodIn_r _ [151, 152] (by decide +kernel) (by decide +kernel)
set_option maxRecDepth 20000 in
theorem gL_law_L_low : GoodIn wsL_law (va_wsS RL 37 yL_low wsL_low) := goodIn_app (goodIn_of _ (by decide +kernel)) ggL_law_L_low
set_option maxRecDepth 20000 in
theorem ggL_law_L_isLadderSo : GoodIn wsL_law wsL_isLadderSo := goodIn_ca (goodIn_ca (goodIn_r _ [301, 302, 303, 304, 2, 305, 166, 167, 168, 169, 170, 171, 13, 172, 173, 174, 175, 83, 84, 306, 307, 308, 24, 309, 100, 101, 102, 103, 132, 133, 134, 135, 38, 37, 108, 109, 110, 111, 41, 112, 113, 114, 115, 39, 46, 45, 116, 117, 118, 119, 96, 97, 98, 99, 104, 105, 106, 107, 120, 121, 122, 123, 42, 124, 125, 126, 127, 40, 128, 129, 130, 131, 274, 93, 94, 95, 310, 311, 312, 313, 314, 315, 316, 181, 182, 317, 318, 319, 320, 272, 267, 268, 269, 270, 163, 164, 165, 207, 208, 213, 220, 271, 273, 275, 276, 277, 278, 233, 234, 235, 236, 237, 238, 239, 44, 279, 280, 281, 282, 244, 283, 257, 258, 259, 321, 322, 323, 324, 325, 326, 327, 328, 329, 254, 255, 330, 356, 357, 358, 359, 360, 361, 362, 370, 371, 372, 373, 374, 375, 376, 377, 378, 379] (by decide +kernel) (by decide +kernel)) (goodIn_sub (fun _ h => List.mem_append_left _ (List.mem_append_right _ h)) (by decide +kernel))) (goodIn_sub (fun _ h => List.mem_append_left _ (List.mem_append_left _ (List.mem_append_right _ h))) (by decide +kernel))
set_option maxRecDepth 20000 in
theorem gL_law_L_isLadderSo : GoodIn wsL_law (va_wsS RL 102 yL_isLadderSo wsL_isLadderSo) := goodIn_app (goodIn_of _ (by decide +kernel)) ggL_law_L_isLadderSo
set_option maxRecDepth 20000 in
theorem ggL_law_L_areTrialsSo : GoodIn wsL_law wsL_areTrialsSo := goodIn_ca (goodIn_ca (goodIn_r _ [333, 334, 335, 336, 2, 337, 25, 213, 166, 167, 168, 169, 170, 171, 13, 172, 338, 188, 189, 24, 190, 37, 38, 39, 40, 41, 42, 43, 44, 45, 46, 274, 93, 94, 95, 96, 97, 98, 99, 100, 101, 102, 103, 104, 105, 106, 107, 108, 109, 110, 111, 112, 113, 114, 115, 116, 117, 118, 119, 120, 121, 122, 123, 124, 125, 126, 127, 128, 129, 130, 131, 132, 133, 134, 135, 339, 340, 341, 342, 208, 343, 344, 345, 346, 163, 306, 307, 308, 309, 267, 268, 269, 270, 83, 84, 164, 165, 207, 220, 271, 272, 273, 347, 348, 349, 350, 240, 241, 242, 243, 244, 237, 238, 239, 351, 352, 353, 354, 233, 234, 235, 236, 283, 257, 258, 259, 355, 261, 262, 263, 275, 276, 277, 278, 279, 280, 281, 282, 356, 357, 358, 359, 370, 371, 372, 373, 374, 375, 376, 377, 378, 379, 360, 361, 362] (by decide +kernel) (by decide +kernel)) (goodIn_sub (fun _ h => List.mem_append_left _ (List.mem_append_right _ h)) (by decide +kernel))) (goodIn_sub (fun _ h => List.mem_append_left _ (List.mem_append_left _ (List.mem_append_right _ h))) (by decide +kernel))
set_option maxRecDepth 20000 in
theorem gL_law_L_areTrialsSo : GoodIn wsL_law (va_wsS RL 106 yL_areTrialsSo wsL_areTrialsSo) := goodIn_app (goodIn_of _ (by decide +kernel)) ggL_law_L_areTrialsSo
theorem dL_law_0 : decode cL_law 0 = .ok (.new 9, 3) := by decide +kernel
theorem dL_law_3 : decode cL_law 3 = .ok (.dup, 1) := by decide +kernel
theorem dL_law_4 : decode cL_law 4 = .ok (.invokespecial 81, 3) := by decide +kernel
theorem dL_law_7 : decode cL_law 7 = .ok (.astore_n 1, 1) := by decide +kernel
theorem dL_law_8 : decode cL_law 8 = .ok (.new 9, 3) := by decide +kernel
theorem dL_law_11 : decode cL_law 11 = .ok (.dup, 1) := by decide +kernel
theorem dL_law_12 : decode cL_law 12 = .ok (.invokespecial 81, 3) := by decide +kernel
theorem dL_law_15 : decode cL_law 15 = .ok (.astore_n 2, 1) := by decide +kernel
theorem dL_law_16 : decode cL_law 16 = .ok (.iconst 1, 1) := by decide +kernel
theorem dL_law_17 : decode cL_law 17 = .ok (.newarray .int, 2) := by decide +kernel
theorem dL_law_19 : decode cL_law 19 = .ok (.astore_n 3, 1) := by decide +kernel
theorem dL_law_20 : decode cL_law 20 = .ok (.iconst 0, 1) := by decide +kernel
theorem dL_law_21 : decode cL_law 21 = .ok (.istore 4, 2) := by decide +kernel
theorem dL_law_23 : decode cL_law 23 = .ok (.iload 4, 2) := by decide +kernel
theorem dL_law_25 : decode cL_law 25 = .ok (.bipush 44, 2) := by decide +kernel
theorem dL_law_27 : decode cL_law 27 = .ok (.if_icmp .ge 213, 3) := by decide +kernel
theorem dL_law_30 : decode cL_law 30 = .ok (.aload_n 0, 1) := by decide +kernel
theorem dL_law_31 : decode cL_law 31 = .ok (.iload 4, 2) := by decide +kernel
theorem dL_law_33 : decode cL_law 33 = .ok (.invokestatic 82, 3) := by decide +kernel
theorem dL_law_36 : decode cL_law 36 = .ok (.istore 5, 2) := by decide +kernel
theorem dL_law_38 : decode cL_law 38 = .ok (.aload_n 1, 1) := by decide +kernel
theorem dL_law_39 : decode cL_law 39 = .ok (.iconst 5, 1) := by decide +kernel
theorem dL_law_40 : decode cL_law 40 = .ok (.invokevirtual 46, 3) := by decide +kernel
theorem dL_law_43 : decode cL_law 43 = .ok (.istore 6, 2) := by decide +kernel
theorem dL_law_45 : decode cL_law 45 = .ok (.aload_n 1, 1) := by decide +kernel
theorem dL_law_46 : decode cL_law 46 = .ok (.iload 5, 2) := by decide +kernel
theorem dL_law_48 : decode cL_law 48 = .ok (.aload_n 3, 1) := by decide +kernel
theorem dL_law_49 : decode cL_law 49 = .ok (.invokestatic 86, 3) := by decide +kernel
theorem dL_law_52 : decode cL_law 52 = .ok (.istore 7, 2) := by decide +kernel
theorem dL_law_54 : decode cL_law 54 = .ok (.aload_n 3, 1) := by decide +kernel
theorem dL_law_55 : decode cL_law 55 = .ok (.iconst 0, 1) := by decide +kernel
theorem dL_law_56 : decode cL_law 56 = .ok (.iaload, 1) := by decide +kernel
theorem dL_law_57 : decode cL_law 57 = .ok (.istore 8, 2) := by decide +kernel
theorem dL_law_59 : decode cL_law 59 = .ok (.iload 7, 2) := by decide +kernel
theorem dL_law_61 : decode cL_law 61 = .ok (.ifCond .eq 23, 3) := by decide +kernel
theorem dL_law_64 : decode cL_law 64 = .ok (.aload_n 1, 1) := by decide +kernel
theorem dL_law_65 : decode cL_law 65 = .ok (.aload_n 2, 1) := by decide +kernel
theorem dL_law_66 : decode cL_law 66 = .ok (.invokestatic 90, 3) := by decide +kernel
theorem dL_law_69 : decode cL_law 69 = .ok (.ifCond .eq 13, 3) := by decide +kernel
theorem dL_law_72 : decode cL_law 72 = .ok (.aload_n 1, 1) := by decide +kernel
theorem dL_law_73 : decode cL_law 73 = .ok (.iconst 5, 1) := by decide +kernel
theorem dL_law_74 : decode cL_law 74 = .ok (.invokevirtual 46, 3) := by decide +kernel
theorem dL_law_77 : decode cL_law 77 = .ok (.iload 6, 2) := by decide +kernel
theorem dL_law_79 : decode cL_law 79 = .ok (.if_icmp .eq 5, 3) := by decide +kernel
theorem dL_law_82 : decode cL_law 82 = .ok (.iconst 0, 1) := by decide +kernel
theorem dL_law_83 : decode cL_law 83 = .ok (.ireturn, 1) := by decide +kernel
theorem dL_law_84 : decode cL_law 84 = .ok (.iload 7, 2) := by decide +kernel
theorem dL_law_86 : decode cL_law 86 = .ok (.ifCond .ne 65, 3) := by decide +kernel
theorem dL_law_89 : decode cL_law 89 = .ok (.iload 5, 2) := by decide +kernel
theorem dL_law_91 : decode cL_law 91 = .ok (.bipush 9, 2) := by decide +kernel
theorem dL_law_93 : decode cL_law 93 = .ok (.ishr, 1) := by decide +kernel
theorem dL_law_94 : decode cL_law 94 = .ok (.iconst 1, 1) := by decide +kernel
theorem dL_law_95 : decode cL_law 95 = .ok (.iand, 1) := by decide +kernel
theorem dL_law_96 : decode cL_law 96 = .ok (.ifCond .ne 55, 3) := by decide +kernel
theorem dL_law_99 : decode cL_law 99 = .ok (.aload_n 1, 1) := by decide +kernel
theorem dL_law_100 : decode cL_law 100 = .ok (.invokevirtual 94, 3) := by decide +kernel
theorem dL_law_103 : decode cL_law 103 = .ok (.istore 9, 2) := by decide +kernel
theorem dL_law_105 : decode cL_law 105 = .ok (.iload 9, 2) := by decide +kernel
theorem dL_law_107 : decode cL_law 107 = .ok (.iload 6, 2) := by decide +kernel
theorem dL_law_109 : decode cL_law 109 = .ok (.bipush 6, 2) := by decide +kernel
theorem dL_law_111 : decode cL_law 111 = .ok (.if_icmp .ne 7, 3) := by decide +kernel
theorem dL_law_114 : decode cL_law 114 = .ok (.iconst 5, 1) := by decide +kernel
theorem dL_law_115 : decode cL_law 115 = .ok (.goto 5, 3) := by decide +kernel
theorem dL_law_118 : decode cL_law 118 = .ok (.iload 6, 2) := by decide +kernel
theorem dL_law_120 : decode cL_law 120 = .ok (.if_icmp .ne 29, 3) := by decide +kernel
theorem dL_law_123 : decode cL_law 123 = .ok (.aload_n 1, 1) := by decide +kernel
theorem dL_law_124 : decode cL_law 124 = .ok (.aload_n 2, 1) := by decide +kernel
theorem dL_law_125 : decode cL_law 125 = .ok (.invokestatic 90, 3) := by decide +kernel
theorem dL_law_128 : decode cL_law 128 = .ok (.ifCond .eq 21, 3) := by decide +kernel
theorem dL_law_131 : decode cL_law 131 = .ok (.aload_n 1, 1) := by decide +kernel
theorem dL_law_132 : decode cL_law 132 = .ok (.iload 5, 2) := by decide +kernel
theorem dL_law_134 : decode cL_law 134 = .ok (.aload_n 3, 1) := by decide +kernel
theorem dL_law_135 : decode cL_law 135 = .ok (.invokestatic 86, 3) := by decide +kernel
theorem dL_law_138 : decode cL_law 138 = .ok (.ifCond .ne 11, 3) := by decide +kernel
theorem dL_law_141 : decode cL_law 141 = .ok (.aload_n 3, 1) := by decide +kernel
theorem dL_law_142 : decode cL_law 142 = .ok (.iconst 0, 1) := by decide +kernel
theorem dL_law_143 : decode cL_law 143 = .ok (.iaload, 1) := by decide +kernel
theorem dL_law_144 : decode cL_law 144 = .ok (.iload 8, 2) := by decide +kernel
theorem dL_law_146 : decode cL_law 146 = .ok (.if_icmp .eq 5, 3) := by decide +kernel
theorem dL_law_149 : decode cL_law 149 = .ok (.iconst 0, 1) := by decide +kernel
theorem dL_law_150 : decode cL_law 150 = .ok (.ireturn, 1) := by decide +kernel
theorem dL_law_151 : decode cL_law 151 = .ok (.aload_n 2, 1) := by decide +kernel
theorem dL_law_152 : decode cL_law 152 = .ok (.iload 5, 2) := by decide +kernel
theorem dL_law_154 : decode cL_law 154 = .ok (.aload_n 3, 1) := by decide +kernel
theorem dL_law_155 : decode cL_law 155 = .ok (.invokestatic 86, 3) := by decide +kernel
theorem dL_law_158 : decode cL_law 158 = .ok (.iload 7, 2) := by decide +kernel
theorem dL_law_160 : decode cL_law 160 = .ok (.if_icmp .ne 24, 3) := by decide +kernel
theorem dL_law_163 : decode cL_law 163 = .ok (.iload 7, 2) := by decide +kernel
theorem dL_law_165 : decode cL_law 165 = .ok (.ifCond .ne 11, 3) := by decide +kernel
theorem dL_law_168 : decode cL_law 168 = .ok (.aload_n 3, 1) := by decide +kernel
theorem dL_law_169 : decode cL_law 169 = .ok (.iconst 0, 1) := by decide +kernel
theorem dL_law_170 : decode cL_law 170 = .ok (.iaload, 1) := by decide +kernel
theorem dL_law_171 : decode cL_law 171 = .ok (.iload 8, 2) := by decide +kernel
theorem dL_law_173 : decode cL_law 173 = .ok (.if_icmp .ne 11, 3) := by decide +kernel
theorem dL_law_176 : decode cL_law 176 = .ok (.aload_n 1, 1) := by decide +kernel
theorem dL_law_177 : decode cL_law 177 = .ok (.aload_n 2, 1) := by decide +kernel
theorem dL_law_178 : decode cL_law 178 = .ok (.invokestatic 90, 3) := by decide +kernel
theorem dL_law_181 : decode cL_law 181 = .ok (.ifCond .ne 5, 3) := by decide +kernel
theorem dL_law_184 : decode cL_law 184 = .ok (.iconst 0, 1) := by decide +kernel
theorem dL_law_185 : decode cL_law 185 = .ok (.ireturn, 1) := by decide +kernel
theorem dL_law_186 : decode cL_law 186 = .ok (.iload 4, 2) := by decide +kernel
theorem dL_law_188 : decode cL_law 188 = .ok (.iconst 4, 1) := by decide +kernel
theorem dL_law_189 : decode cL_law 189 = .ok (.irem, 1) := by decide +kernel
theorem dL_law_190 : decode cL_law 190 = .ok (.iconst 3, 1) := by decide +kernel
theorem dL_law_191 : decode cL_law 191 = .ok (.if_icmp .ne 43, 3) := by decide +kernel
theorem dL_law_194 : decode cL_law 194 = .ok (.aload_n 1, 1) := by decide +kernel
theorem dL_law_195 : decode cL_law 195 = .ok (.invokestatic 98, 3) := by decide +kernel
theorem dL_law_198 : decode cL_law 198 = .ok (.ifCond .eq 34, 3) := by decide +kernel
theorem dL_law_201 : decode cL_law 201 = .ok (.aload_n 1, 1) := by decide +kernel
theorem dL_law_202 : decode cL_law 202 = .ok (.iload 5, 2) := by decide +kernel
theorem dL_law_204 : decode cL_law 204 = .ok (.iconst 4, 1) := by decide +kernel
theorem dL_law_205 : decode cL_law 205 = .ok (.ishr, 1) := by decide +kernel
theorem dL_law_206 : decode cL_law 206 = .ok (.iconst 3, 1) := by decide +kernel
theorem dL_law_207 : decode cL_law 207 = .ok (.invokestatic 37, 3) := by decide +kernel
theorem dL_law_210 : decode cL_law 210 = .ok (.invokestatic 102, 3) := by decide +kernel
theorem dL_law_213 : decode cL_law 213 = .ok (.ifCond .eq 19, 3) := by decide +kernel
theorem dL_law_216 : decode cL_law 216 = .ok (.aload_n 1, 1) := by decide +kernel
theorem dL_law_217 : decode cL_law 217 = .ok (.iload 5, 2) := by decide +kernel
theorem dL_law_219 : decode cL_law 219 = .ok (.bipush 6, 2) := by decide +kernel
theorem dL_law_221 : decode cL_law 221 = .ok (.ishr, 1) := by decide +kernel
theorem dL_law_222 : decode cL_law 222 = .ok (.iconst 3, 1) := by decide +kernel
theorem dL_law_223 : decode cL_law 223 = .ok (.invokestatic 37, 3) := by decide +kernel
theorem dL_law_226 : decode cL_law 226 = .ok (.invokestatic 106, 3) := by decide +kernel
theorem dL_law_229 : decode cL_law 229 = .ok (.ifCond .ne 5, 3) := by decide +kernel
theorem dL_law_232 : decode cL_law 232 = .ok (.iconst 0, 1) := by decide +kernel
theorem dL_law_233 : decode cL_law 233 = .ok (.ireturn, 1) := by decide +kernel
theorem dL_law_234 : decode cL_law 234 = .ok (.iinc 4 1, 3) := by decide +kernel
theorem dL_law_237 : decode cL_law 237 = .ok (.goto (-214), 3) := by decide +kernel
theorem dL_law_240 : decode cL_law 240 = .ok (.aload_n 1, 1) := by decide +kernel
theorem dL_law_241 : decode cL_law 241 = .ok (.invokestatic 98, 3) := by decide +kernel
theorem dL_law_244 : decode cL_law 244 = .ok (.ireturn, 1) := by decide +kernel
end
section
/-! the base layer: a walk over a world that is one list, locals and operands at hand -/
section ZB
variable {p : Program} {l : Launch} {e : Env} {R : Room} {s : State} {m : MethodId} {args : Array Value} {below : List Frame} {meth : Method} {c : Code} {D : va_G} {tys : List (ClassId × FieldType)} {A : Nat → Prop} {Q : State → Prop} {nL : Nat} {ws : va_W} {cells slots pc : Nat} {lv : List (Nat × Value)} {rest : List Value} {cc : ByteArray} {own : String} {Ts : List Cond}
/-- what stays over a method's walk -/
def zE (p : Program) (s : State) (m : MethodId) (args : Array Value) (c : Code) (D : va_G) (tys : List (ClassId × FieldType)) (A : Nat → Prop) (nL : Nat) (cc : ByteArray) (own : String) (Ts : List Cond) : Prop :=
  p.tables.exec = Jvm.exec ∧ c.code = cc ∧ c.maxLocals = nL ∧ s.vm.findClass own = some m.cls ∧ (∀ w ∈ Ts, w.before args s = true) ∧ va_K D vwCl tys s ∧ ∀ q, s.heap.size ≤ q → A q
/-- the walk's goal: world ws, place pc, locals lv, operands st -/
def zW (p : Program) (l : Launch) (e : Env) (R : Room) (s : State) (m : MethodId) (args : Array Value) (below : List Frame) (meth : Method) (c : Code) (D : va_G) (A : Nat → Prop) (Q : State → Prop) (nL : Nat) (ws : va_W) (cells slots pc : Nat) (lv : List (Nat × Value)) (st : List Value) : Prop :=
  ∀ (H : Heap) (locs : List Loc) (ls : Array Slot), va_P D vwCl ws H → va_D A ws → va_S A s.heap H locs → lv_has ls nL lv → W p l e R s m args below meth c H locs cells slots Q (F0 m pc ls st)
theorem zE.hx (E : zE p s m args c D tys A nL cc own Ts) : p.tables.exec = Jvm.exec := E.1
theorem zE.hb (E : zE p s m args c D tys A nL cc own Ts) : c.code = cc := E.2.1
theorem zE.hml (E : zE p s m args c D tys A nL cc own Ts) : c.maxLocals = nL := E.2.2.1
theorem zE.hown (E : zE p s m args c D tys A nL cc own Ts) : s.vm.findClass own = some m.cls := E.2.2.2.1
theorem zE.hts (E : zE p s m args c D tys A nL cc own Ts) : ∀ w ∈ Ts, w.before args s = true := E.2.2.2.2.1
theorem zE.hK (E : zE p s m args c D tys A nL cc own Ts) : va_K D vwCl tys s := E.2.2.2.2.2.1
theorem zE.hA (E : zE p s m args c D tys A nL cc own Ts) : ∀ q, s.heap.size ≤ q → A q := E.2.2.2.2.2.2
theorem z_iconst (E : zE p s m args c D tys A nL cc own Ts) {n : Int} {v : Int32} (d : decode cc pc = .ok (.iconst n, 1)) (hv : Int32.ofInt n = v) (k : zW p l e R s m args below meth c D A Q nL ws cells slots (pc + 1) lv (.int v :: rest)) : zW p l e R s m args below meth c D A Q nL ws cells slots pc lv (rest) := fun H locs ls hP hD hS hl => lv_iconst E.hx E.hb d hv (k H locs ls hP hD hS hl)
theorem z_bipush (E : zE p s m args c D tys A nL cc own Ts) {n : Int} {v : Int32} (d : decode cc pc = .ok (.bipush n, 2)) (hv : (Int8.ofInt n).toInt32 = v) (k : zW p l e R s m args below meth c D A Q nL ws cells slots (pc + 2) lv (.int v :: rest)) : zW p l e R s m args below meth c D A Q nL ws cells slots pc lv (rest) := fun H locs ls hP hD hS hl => lv_bipush E.hx E.hb d hv (k H locs ls hP hD hS hl)
theorem z_sipush (E : zE p s m args c D tys A nL cc own Ts) {n : Int} {v : Int32} (d : decode cc pc = .ok (.sipush n, 3)) (hv : (Int16.ofInt n).toInt32 = v) (k : zW p l e R s m args below meth c D A Q nL ws cells slots (pc + 3) lv (.int v :: rest)) : zW p l e R s m args below meth c D A Q nL ws cells slots pc lv (rest) := fun H locs ls hP hD hS hl => lv_sipush E.hx E.hb d hv (k H locs ls hP hD hS hl)
theorem z_lconst (E : zE p s m args c D tys A nL cc own Ts) {n : Fin 2} {v : Int64} (d : decode cc pc = .ok (.lconst n, 1)) (hv : Int64.ofNat (n : Nat) = v) (k : zW p l e R s m args below meth c D A Q nL ws cells slots (pc + 1) lv (.long v :: rest)) : zW p l e R s m args below meth c D A Q nL ws cells slots pc lv (rest) := fun H locs ls hP hD hS hl => lv_lconst E.hx E.hb d hv (k H locs ls hP hD hS hl)
theorem z_ldc (E : zE p s m args c D tys A nL cc own Ts) {index : Nat} {v : Int32} (d : decode cc pc = .ok (.ldc index, 2)) (hw : Cond.constant own index v ∈ Ts) (k : zW p l e R s m args below meth c D A Q nL ws cells slots (pc + 2) lv (.int v :: rest)) : zW p l e R s m args below meth c D A Q nL ws cells slots pc lv (rest) := fun H locs ls hP hD hS hl => lv_ldc E.hx E.hb E.hown (E.hts _ hw) d (k H locs ls hP hD hS hl)
theorem z_ldcw (E : zE p s m args c D tys A nL cc own Ts) {index : Nat} {v : Int32} (d : decode cc pc = .ok (.ldc_w index, 3)) (hw : Cond.constant own index v ∈ Ts) (k : zW p l e R s m args below meth c D A Q nL ws cells slots (pc + 3) lv (.int v :: rest)) : zW p l e R s m args below meth c D A Q nL ws cells slots pc lv (rest) := fun H locs ls hP hD hS hl => lv_ldcw E.hx E.hb E.hown (E.hts _ hw) d (k H locs ls hP hD hS hl)
theorem z_ldc2 (E : zE p s m args c D tys A nL cc own Ts) {index : Nat} {v : Int64} (d : decode cc pc = .ok (.ldc2_w index, 3)) (hw : Cond.constantLong own index v ∈ Ts) (k : zW p l e R s m args below meth c D A Q nL ws cells slots (pc + 3) lv (.long v :: rest)) : zW p l e R s m args below meth c D A Q nL ws cells slots pc lv (rest) := fun H locs ls hP hD hS hl => lv_ldc2 E.hx E.hb E.hown (E.hts _ hw) d (k H locs ls hP hD hS hl)
theorem z_ldc2d (E : zE p s m args c D tys A nL cc own Ts) {index : Nat} {v : UInt64} (d : decode cc pc = .ok (.ldc2_w index, 3)) (hw : Cond.constantDouble own index v ∈ Ts) (k : zW p l e R s m args below meth c D A Q nL ws cells slots (pc + 3) lv (.double v :: rest)) : zW p l e R s m args below meth c D A Q nL ws cells slots pc lv (rest) := fun H locs ls hP hD hS hl => lv_ldc2d E.hx E.hb E.hown (E.hts _ hw) d (k H locs ls hP hD hS hl)
theorem z_iload_n (E : zE p s m args c D tys A nL cc own Ts) {k0 : Fin 4} {i : Nat} {x : Int32} (d : decode cc pc = .ok (.iload_n k0, 1)) (hi : (k0 : Nat) = i) (q : Nat) (hq : lv[q]? = some (i, .int x)) (k : zW p l e R s m args below meth c D A Q nL ws cells slots (pc + 1) lv (.int x :: rest)) : zW p l e R s m args below meth c D A Q nL ws cells slots pc lv (rest) := fun H locs ls hP hD hS hl => lv_iload_n E.hx E.hb d hi (lv_at hl q hq) (k H locs ls hP hD hS hl)
theorem z_iload (E : zE p s m args c D tys A nL cc own Ts) {i : Nat} {x : Int32} (d : decode cc pc = .ok (.iload i, 2)) (q : Nat) (hq : lv[q]? = some (i, .int x)) (k : zW p l e R s m args below meth c D A Q nL ws cells slots (pc + 2) lv (.int x :: rest)) : zW p l e R s m args below meth c D A Q nL ws cells slots pc lv (rest) := fun H locs ls hP hD hS hl => lv_iload E.hx E.hb d (lv_at hl q hq) (k H locs ls hP hD hS hl)
theorem z_istore_n (E : zE p s m args c D tys A nL cc own Ts) {k0 : Fin 4} {i : Nat} {x : Int32} {lv' : List (Nat × Value)} (d : decode cc pc = .ok (.istore_n k0, 1)) (hi : (k0 : Nat) = i) (hn : i < nL) (hlv : (i, Value.int x) :: lv.filter (fun q => !(q.1 == i) && !(q.1 + 1 == i && q.2.category == 2)) = lv') (k : zW p l e R s m args below meth c D A Q nL ws cells slots (pc + 1) lv' (rest)) : zW p l e R s m args below meth c D A Q nL ws cells slots pc lv (.int x :: rest) := fun H locs ls hP hD hS hl => lv_istore_n E.hx E.hb d hi hl hn hlv (fun ls' hl' => k H locs ls' hP hD hS hl')
theorem z_istore (E : zE p s m args c D tys A nL cc own Ts) {i : Nat} {x : Int32} {lv' : List (Nat × Value)} (d : decode cc pc = .ok (.istore i, 2)) (hn : i < nL) (hlv : (i, Value.int x) :: lv.filter (fun q => !(q.1 == i) && !(q.1 + 1 == i && q.2.category == 2)) = lv') (k : zW p l e R s m args below meth c D A Q nL ws cells slots (pc + 2) lv' (rest)) : zW p l e R s m args below meth c D A Q nL ws cells slots pc lv (.int x :: rest) := fun H locs ls hP hD hS hl => lv_istore E.hx E.hb d hl hn hlv (fun ls' hl' => k H locs ls' hP hD hS hl')
theorem z_aload_n (E : zE p s m args c D tys A nL cc own Ts) {k0 : Fin 4} {i : Nat} {x : Nat} (d : decode cc pc = .ok (.aload_n k0, 1)) (hi : (k0 : Nat) = i) (q : Nat) (hq : lv[q]? = some (i, .ref x)) (k : zW p l e R s m args below meth c D A Q nL ws cells slots (pc + 1) lv (.ref x :: rest)) : zW p l e R s m args below meth c D A Q nL ws cells slots pc lv (rest) := fun H locs ls hP hD hS hl => lv_aload_n E.hx E.hb d hi (lv_at hl q hq) (k H locs ls hP hD hS hl)
theorem z_aload (E : zE p s m args c D tys A nL cc own Ts) {i : Nat} {x : Nat} (d : decode cc pc = .ok (.aload i, 2)) (q : Nat) (hq : lv[q]? = some (i, .ref x)) (k : zW p l e R s m args below meth c D A Q nL ws cells slots (pc + 2) lv (.ref x :: rest)) : zW p l e R s m args below meth c D A Q nL ws cells slots pc lv (rest) := fun H locs ls hP hD hS hl => lv_aload E.hx E.hb d (lv_at hl q hq) (k H locs ls hP hD hS hl)
theorem z_astore_n (E : zE p s m args c D tys A nL cc own Ts) {k0 : Fin 4} {i : Nat} {x : Nat} {lv' : List (Nat × Value)} (d : decode cc pc = .ok (.astore_n k0, 1)) (hi : (k0 : Nat) = i) (hn : i < nL) (hlv : (i, Value.ref x) :: lv.filter (fun q => !(q.1 == i) && !(q.1 + 1 == i && q.2.category == 2)) = lv') (k : zW p l e R s m args below meth c D A Q nL ws cells slots (pc + 1) lv' (rest)) : zW p l e R s m args below meth c D A Q nL ws cells slots pc lv (.ref x :: rest) := fun H locs ls hP hD hS hl => lv_astore_n E.hx E.hb d hi hl hn hlv (fun ls' hl' => k H locs ls' hP hD hS hl')
theorem z_astore (E : zE p s m args c D tys A nL cc own Ts) {i : Nat} {x : Nat} {lv' : List (Nat × Value)} (d : decode cc pc = .ok (.astore i, 2)) (hn : i < nL) (hlv : (i, Value.ref x) :: lv.filter (fun q => !(q.1 == i) && !(q.1 + 1 == i && q.2.category == 2)) = lv') (k : zW p l e R s m args below meth c D A Q nL ws cells slots (pc + 2) lv' (rest)) : zW p l e R s m args below meth c D A Q nL ws cells slots pc lv (.ref x :: rest) := fun H locs ls hP hD hS hl => lv_astore E.hx E.hb d hl hn hlv (fun ls' hl' => k H locs ls' hP hD hS hl')
theorem z_lload_n (E : zE p s m args c D tys A nL cc own Ts) {k0 : Fin 4} {i : Nat} {x : Int64} (d : decode cc pc = .ok (.lload_n k0, 1)) (hi : (k0 : Nat) = i) (q : Nat) (hq : lv[q]? = some (i, .long x)) (k : zW p l e R s m args below meth c D A Q nL ws cells slots (pc + 1) lv (.long x :: rest)) : zW p l e R s m args below meth c D A Q nL ws cells slots pc lv (rest) := fun H locs ls hP hD hS hl => lv_lload_n E.hx E.hb d hi (lv_at hl q hq) (k H locs ls hP hD hS hl)
theorem z_lload (E : zE p s m args c D tys A nL cc own Ts) {i : Nat} {x : Int64} (d : decode cc pc = .ok (.lload i, 2)) (q : Nat) (hq : lv[q]? = some (i, .long x)) (k : zW p l e R s m args below meth c D A Q nL ws cells slots (pc + 2) lv (.long x :: rest)) : zW p l e R s m args below meth c D A Q nL ws cells slots pc lv (rest) := fun H locs ls hP hD hS hl => lv_lload E.hx E.hb d (lv_at hl q hq) (k H locs ls hP hD hS hl)
theorem z_lstore_n (E : zE p s m args c D tys A nL cc own Ts) {k0 : Fin 4} {i : Nat} {x : Int64} {lv' : List (Nat × Value)} (d : decode cc pc = .ok (.lstore_n k0, 1)) (hi : (k0 : Nat) = i) (hn : i + 1 < nL) (hlv : (i, Value.long x) :: lv.filter (fun q => !(q.1 == i) && (!(q.1 == i + 1) && !(q.1 + 1 == i && q.2.category == 2))) = lv') (k : zW p l e R s m args below meth c D A Q nL ws cells slots (pc + 1) lv' (rest)) : zW p l e R s m args below meth c D A Q nL ws cells slots pc lv (.long x :: rest) := fun H locs ls hP hD hS hl => lv_lstore_n E.hx E.hb d hi hl hn hlv (fun ls' hl' => k H locs ls' hP hD hS hl')
theorem z_lstore (E : zE p s m args c D tys A nL cc own Ts) {i : Nat} {x : Int64} {lv' : List (Nat × Value)} (d : decode cc pc = .ok (.lstore i, 2)) (hn : i + 1 < nL) (hlv : (i, Value.long x) :: lv.filter (fun q => !(q.1 == i) && (!(q.1 == i + 1) && !(q.1 + 1 == i && q.2.category == 2))) = lv') (k : zW p l e R s m args below meth c D A Q nL ws cells slots (pc + 2) lv' (rest)) : zW p l e R s m args below meth c D A Q nL ws cells slots pc lv (.long x :: rest) := fun H locs ls hP hD hS hl => lv_lstore E.hx E.hb d hl hn hlv (fun ls' hl' => k H locs ls' hP hD hS hl')
theorem z_dload_n (E : zE p s m args c D tys A nL cc own Ts) {k0 : Fin 4} {i : Nat} {x : UInt64} (d : decode cc pc = .ok (.dload_n k0, 1)) (hi : (k0 : Nat) = i) (q : Nat) (hq : lv[q]? = some (i, .double x)) (k : zW p l e R s m args below meth c D A Q nL ws cells slots (pc + 1) lv (.double x :: rest)) : zW p l e R s m args below meth c D A Q nL ws cells slots pc lv (rest) := fun H locs ls hP hD hS hl => lv_dload_n E.hx E.hb d hi (lv_at hl q hq) (k H locs ls hP hD hS hl)
theorem z_dload (E : zE p s m args c D tys A nL cc own Ts) {i : Nat} {x : UInt64} (d : decode cc pc = .ok (.dload i, 2)) (q : Nat) (hq : lv[q]? = some (i, .double x)) (k : zW p l e R s m args below meth c D A Q nL ws cells slots (pc + 2) lv (.double x :: rest)) : zW p l e R s m args below meth c D A Q nL ws cells slots pc lv (rest) := fun H locs ls hP hD hS hl => lv_dload E.hx E.hb d (lv_at hl q hq) (k H locs ls hP hD hS hl)
theorem z_dstore_n (E : zE p s m args c D tys A nL cc own Ts) {k0 : Fin 4} {i : Nat} {x : UInt64} {lv' : List (Nat × Value)} (d : decode cc pc = .ok (.dstore_n k0, 1)) (hi : (k0 : Nat) = i) (hn : i + 1 < nL) (hlv : (i, Value.double x) :: lv.filter (fun q => !(q.1 == i) && (!(q.1 == i + 1) && !(q.1 + 1 == i && q.2.category == 2))) = lv') (k : zW p l e R s m args below meth c D A Q nL ws cells slots (pc + 1) lv' (rest)) : zW p l e R s m args below meth c D A Q nL ws cells slots pc lv (.double x :: rest) := fun H locs ls hP hD hS hl => lv_dstore_n E.hx E.hb d hi hl hn hlv (fun ls' hl' => k H locs ls' hP hD hS hl')
theorem z_dstore (E : zE p s m args c D tys A nL cc own Ts) {i : Nat} {x : UInt64} {lv' : List (Nat × Value)} (d : decode cc pc = .ok (.dstore i, 2)) (hn : i + 1 < nL) (hlv : (i, Value.double x) :: lv.filter (fun q => !(q.1 == i) && (!(q.1 == i + 1) && !(q.1 + 1 == i && q.2.category == 2))) = lv') (k : zW p l e R s m args below meth c D A Q nL ws cells slots (pc + 2) lv' (rest)) : zW p l e R s m args below meth c D A Q nL ws cells slots pc lv (.double x :: rest) := fun H locs ls hP hD hS hl => lv_dstore E.hx E.hb d hl hn hlv (fun ls' hl' => k H locs ls' hP hD hS hl')
theorem z_iinc (E : zE p s m args c D tys A nL cc own Ts) {i q : Nat} {n : Int} {x v : Int32} {lv' : List (Nat × Value)} (d : decode cc pc = .ok (.iinc i n, 3)) (hq : lv[q]? = some (i, .int x)) (hv : x + Int32.ofInt n = v) (hn : i < nL) (hlv : (i, Value.int v) :: lv.filter (fun q => !(q.1 == i) && !(q.1 + 1 == i && q.2.category == 2)) = lv') (k : zW p l e R s m args below meth c D A Q nL ws cells slots (pc + 3) lv' (rest)) : zW p l e R s m args below meth c D A Q nL ws cells slots pc lv (rest) := fun H locs ls hP hD hS hl => lv_iinc E.hx E.hb d hl hq hv hn hlv (fun ls' hl' => k H locs ls' hP hD hS hl')
theorem z_iadd (E : zE p s m args c D tys A nL cc own Ts) {x y : Int32} (d : decode cc pc = .ok (.iadd, 1)) (k : zW p l e R s m args below meth c D A Q nL ws cells slots (pc + 1) lv (.int (x + y) :: rest)) : zW p l e R s m args below meth c D A Q nL ws cells slots pc lv (.int y :: .int x :: rest) := fun H locs ls hP hD hS hl => lv_iadd E.hx E.hb d (k H locs ls hP hD hS hl)
theorem z_isub (E : zE p s m args c D tys A nL cc own Ts) {x y : Int32} (d : decode cc pc = .ok (.isub, 1)) (k : zW p l e R s m args below meth c D A Q nL ws cells slots (pc + 1) lv (.int (x - y) :: rest)) : zW p l e R s m args below meth c D A Q nL ws cells slots pc lv (.int y :: .int x :: rest) := fun H locs ls hP hD hS hl => lv_isub E.hx E.hb d (k H locs ls hP hD hS hl)
theorem z_imul (E : zE p s m args c D tys A nL cc own Ts) {x y : Int32} (d : decode cc pc = .ok (.imul, 1)) (k : zW p l e R s m args below meth c D A Q nL ws cells slots (pc + 1) lv (.int (x * y) :: rest)) : zW p l e R s m args below meth c D A Q nL ws cells slots pc lv (.int y :: .int x :: rest) := fun H locs ls hP hD hS hl => lv_imul E.hx E.hb d (k H locs ls hP hD hS hl)
theorem z_iand (E : zE p s m args c D tys A nL cc own Ts) {x y : Int32} (d : decode cc pc = .ok (.iand, 1)) (k : zW p l e R s m args below meth c D A Q nL ws cells slots (pc + 1) lv (.int (x &&& y) :: rest)) : zW p l e R s m args below meth c D A Q nL ws cells slots pc lv (.int y :: .int x :: rest) := fun H locs ls hP hD hS hl => lv_iand E.hx E.hb d (k H locs ls hP hD hS hl)
theorem z_ior (E : zE p s m args c D tys A nL cc own Ts) {x y : Int32} (d : decode cc pc = .ok (.ior, 1)) (k : zW p l e R s m args below meth c D A Q nL ws cells slots (pc + 1) lv (.int (x ||| y) :: rest)) : zW p l e R s m args below meth c D A Q nL ws cells slots pc lv (.int y :: .int x :: rest) := fun H locs ls hP hD hS hl => lv_ior E.hx E.hb d (k H locs ls hP hD hS hl)
theorem z_ixor (E : zE p s m args c D tys A nL cc own Ts) {x y : Int32} (d : decode cc pc = .ok (.ixor, 1)) (k : zW p l e R s m args below meth c D A Q nL ws cells slots (pc + 1) lv (.int (x ^^^ y) :: rest)) : zW p l e R s m args below meth c D A Q nL ws cells slots pc lv (.int y :: .int x :: rest) := fun H locs ls hP hD hS hl => lv_ixor E.hx E.hb d (k H locs ls hP hD hS hl)
theorem z_iaddV (E : zE p s m args c D tys A nL cc own Ts) {x y v : Int32} (d : decode cc pc = .ok (.iadd, 1)) (hv : x + y = v) (k : zW p l e R s m args below meth c D A Q nL ws cells slots (pc + 1) lv (.int v :: rest)) : zW p l e R s m args below meth c D A Q nL ws cells slots pc lv (.int y :: .int x :: rest) := fun H locs ls hP hD hS hl => lv_iadd E.hx E.hb d (by rw [hv]; exact (k H locs ls hP hD hS hl))
theorem z_isubV (E : zE p s m args c D tys A nL cc own Ts) {x y v : Int32} (d : decode cc pc = .ok (.isub, 1)) (hv : x - y = v) (k : zW p l e R s m args below meth c D A Q nL ws cells slots (pc + 1) lv (.int v :: rest)) : zW p l e R s m args below meth c D A Q nL ws cells slots pc lv (.int y :: .int x :: rest) := fun H locs ls hP hD hS hl => lv_isub E.hx E.hb d (by rw [hv]; exact (k H locs ls hP hD hS hl))
theorem z_imulV (E : zE p s m args c D tys A nL cc own Ts) {x y v : Int32} (d : decode cc pc = .ok (.imul, 1)) (hv : x * y = v) (k : zW p l e R s m args below meth c D A Q nL ws cells slots (pc + 1) lv (.int v :: rest)) : zW p l e R s m args below meth c D A Q nL ws cells slots pc lv (.int y :: .int x :: rest) := fun H locs ls hP hD hS hl => lv_imul E.hx E.hb d (by rw [hv]; exact (k H locs ls hP hD hS hl))
theorem z_iorV (E : zE p s m args c D tys A nL cc own Ts) {x y v : Int32} (d : decode cc pc = .ok (.ior, 1)) (hv : x ||| y = v) (k : zW p l e R s m args below meth c D A Q nL ws cells slots (pc + 1) lv (.int v :: rest)) : zW p l e R s m args below meth c D A Q nL ws cells slots pc lv (.int y :: .int x :: rest) := fun H locs ls hP hD hS hl => lv_ior E.hx E.hb d (by rw [hv]; exact (k H locs ls hP hD hS hl))
theorem z_ishl (E : zE p s m args c D tys A nL cc own Ts) {x y : Int32} (d : decode cc pc = .ok (.ishl, 1)) (k : zW p l e R s m args below meth c D A Q nL ws cells slots (pc + 1) lv (.int (x <<< (y &&& 31)) :: rest)) : zW p l e R s m args below meth c D A Q nL ws cells slots pc lv (.int y :: .int x :: rest) := fun H locs ls hP hD hS hl => lv_ishl E.hx E.hb d (k H locs ls hP hD hS hl)
theorem z_idiv (E : zE p s m args c D tys A nL cc own Ts) {x y : Int32} (d : decode cc pc = .ok (.idiv, 1)) (hne : ¬ y = 0) (k : zW p l e R s m args below meth c D A Q nL ws cells slots (pc + 1) lv (.int (x / y) :: rest)) : zW p l e R s m args below meth c D A Q nL ws cells slots pc lv (.int y :: .int x :: rest) := fun H locs ls hP hD hS hl => lv_idiv E.hx E.hb d hne (k H locs ls hP hD hS hl)
theorem z_ineg (E : zE p s m args c D tys A nL cc own Ts) {x : Int32} (d : decode cc pc = .ok (.ineg, 1)) (k : zW p l e R s m args below meth c D A Q nL ws cells slots (pc + 1) lv (.int (-x) :: rest)) : zW p l e R s m args below meth c D A Q nL ws cells slots pc lv (.int x :: rest) := fun H locs ls hP hD hS hl => lv_ineg E.hx E.hb d (k H locs ls hP hD hS hl)
theorem z_i2l (E : zE p s m args c D tys A nL cc own Ts) {x : Int32} {v : Int64} (d : decode cc pc = .ok (.i2l, 1)) (hv : x.toInt64 = v) (k : zW p l e R s m args below meth c D A Q nL ws cells slots (pc + 1) lv (.long v :: rest)) : zW p l e R s m args below meth c D A Q nL ws cells slots pc lv (.int x :: rest) := fun H locs ls hP hD hS hl => lv_i2l E.hx E.hb d hv (k H locs ls hP hD hS hl)
theorem z_i2d (E : zE p s m args c D tys A nL cc own Ts) {x : Int32} (d : decode cc pc = .ok (.i2d, 1)) (k : zW p l e R s m args below meth c D A Q nL ws cells slots (pc + 1) lv (.double (FP.i2d x) :: rest)) : zW p l e R s m args below meth c D A Q nL ws cells slots pc lv (.int x :: rest) := fun H locs ls hP hD hS hl => lv_i2d E.hx E.hb d (k H locs ls hP hD hS hl)
theorem z_d2l (E : zE p s m args c D tys A nL cc own Ts) {x : UInt64} (d : decode cc pc = .ok (.d2l, 1)) (k : zW p l e R s m args below meth c D A Q nL ws cells slots (pc + 1) lv (.long (FP.d2l x) :: rest)) : zW p l e R s m args below meth c D A Q nL ws cells slots pc lv (.double x :: rest) := fun H locs ls hP hD hS hl => lv_d2l E.hx E.hb d (k H locs ls hP hD hS hl)
theorem z_dcmp (E : zE p s m args c D tys A nL cc own Ts) {x y : UInt64} {op : CmpOp} (d : decode cc pc = .ok (.dcmp op, 1)) (k : zW p l e R s m args below meth c D A Q nL ws cells slots (pc + 1) lv (.int (Op.cmpValue (FP.dcmp x y) op) :: rest)) : zW p l e R s m args below meth c D A Q nL ws cells slots pc lv (.double y :: .double x :: rest) := fun H locs ls hP hD hS hl => lv_dcmp E.hx E.hb d (k H locs ls hP hD hS hl)
theorem z_dmul (E : zE p s m args c D tys A nL cc own Ts) {x y : UInt64} (d : decode cc pc = .ok (.dmul, 1)) (hne : vf_n64 (FP.dmul x y)) (k : zW p l e R s m args below meth c D A Q nL ws cells slots (pc + 1) lv (.double (FP.dmul x y) :: rest)) : zW p l e R s m args below meth c D A Q nL ws cells slots pc lv (.double y :: .double x :: rest) := fun H locs ls hP hD hS hl => lv_dmul E.hx E.hb d hne (k H locs ls hP hD hS hl)
theorem z_dsub (E : zE p s m args c D tys A nL cc own Ts) {x y : UInt64} (d : decode cc pc = .ok (.dsub, 1)) (hne : vf_n64 (FP.dsub x y)) (k : zW p l e R s m args below meth c D A Q nL ws cells slots (pc + 1) lv (.double (FP.dsub x y) :: rest)) : zW p l e R s m args below meth c D A Q nL ws cells slots pc lv (.double y :: .double x :: rest) := fun H locs ls hP hD hS hl => lv_dsub E.hx E.hb d hne (k H locs ls hP hD hS hl)
theorem z_ddiv (E : zE p s m args c D tys A nL cc own Ts) {x y : UInt64} (d : decode cc pc = .ok (.ddiv, 1)) (hne : vf_n64 (FP.ddiv x y)) (k : zW p l e R s m args below meth c D A Q nL ws cells slots (pc + 1) lv (.double (FP.ddiv x y) :: rest)) : zW p l e R s m args below meth c D A Q nL ws cells slots pc lv (.double y :: .double x :: rest) := fun H locs ls hP hD hS hl => lv_ddiv E.hx E.hb d hne (k H locs ls hP hD hS hl)
theorem z_ladd (E : zE p s m args c D tys A nL cc own Ts) {x y : Int64} (d : decode cc pc = .ok (.ladd, 1)) (k : zW p l e R s m args below meth c D A Q nL ws cells slots (pc + 1) lv (.long (x + y) :: rest)) : zW p l e R s m args below meth c D A Q nL ws cells slots pc lv (.long y :: .long x :: rest) := fun H locs ls hP hD hS hl => lv_ladd E.hx E.hb d (k H locs ls hP hD hS hl)
theorem z_lmul (E : zE p s m args c D tys A nL cc own Ts) {x y : Int64} (d : decode cc pc = .ok (.lmul, 1)) (k : zW p l e R s m args below meth c D A Q nL ws cells slots (pc + 1) lv (.long (x * y) :: rest)) : zW p l e R s m args below meth c D A Q nL ws cells slots pc lv (.long y :: .long x :: rest) := fun H locs ls hP hD hS hl => lv_lmul E.hx E.hb d (k H locs ls hP hD hS hl)
theorem z_lsub (E : zE p s m args c D tys A nL cc own Ts) {x y : Int64} (d : decode cc pc = .ok (.lsub, 1)) (k : zW p l e R s m args below meth c D A Q nL ws cells slots (pc + 1) lv (.long (x - y) :: rest)) : zW p l e R s m args below meth c D A Q nL ws cells slots pc lv (.long y :: .long x :: rest) := fun H locs ls hP hD hS hl => lv_lsub E.hx E.hb d (k H locs ls hP hD hS hl)
theorem z_lshl (E : zE p s m args c D tys A nL cc own Ts) {x v : Int64} {y : Int32} (d : decode cc pc = .ok (.lshl, 1)) (hv : x <<< (y.toInt64 &&& 63) = v) (k : zW p l e R s m args below meth c D A Q nL ws cells slots (pc + 1) lv (.long v :: rest)) : zW p l e R s m args below meth c D A Q nL ws cells slots pc lv (.int y :: .long x :: rest) := fun H locs ls hP hD hS hl => lv_lshl E.hx E.hb d hv (k H locs ls hP hD hS hl)
theorem z_dup (E : zE p s m args c D tys A nL cc own Ts) {va : Value} (d : decode cc pc = .ok (.dup, 1)) (hva : va.category = 1) (k : zW p l e R s m args below meth c D A Q nL ws cells slots (pc + 1) lv (va :: va :: rest)) : zW p l e R s m args below meth c D A Q nL ws cells slots pc lv (va :: rest) := fun H locs ls hP hD hS hl => lv_dup E.hx E.hb d hva (k H locs ls hP hD hS hl)
theorem z_dup2 (E : zE p s m args c D tys A nL cc own Ts) {va vb : Value} (d : decode cc pc = .ok (.dup2, 1)) (hva : va.category = 1) (hvb : vb.category = 1) (k : zW p l e R s m args below meth c D A Q nL ws cells slots (pc + 1) lv (va :: vb :: va :: vb :: rest)) : zW p l e R s m args below meth c D A Q nL ws cells slots pc lv (va :: vb :: rest) := fun H locs ls hP hD hS hl => lv_dup2_11 E.hx E.hb d hva hvb (k H locs ls hP hD hS hl)
theorem z_pop (E : zE p s m args c D tys A nL cc own Ts) {va : Value} (d : decode cc pc = .ok (.pop, 1)) (hva : va.category = 1) (k : zW p l e R s m args below meth c D A Q nL ws cells slots (pc + 1) lv (rest)) : zW p l e R s m args below meth c D A Q nL ws cells slots pc lv (va :: rest) := fun H locs ls hP hD hS hl => lv_pop E.hx E.hb d hva (k H locs ls hP hD hS hl)
theorem z_goto (E : zE p s m args c D tys A nL cc own Ts) {off : Int} {tgt : Nat} (d : decode cc pc = .ok (.goto off, 3)) (ht : (pc : Int) + off = (tgt : Int)) (k : zW p l e R s m args below meth c D A Q nL ws cells slots tgt lv rest) : zW p l e R s m args below meth c D A Q nL ws cells slots pc lv rest := fun H locs ls hP hD hS hl => lv_goto E.hx E.hb d ht (k H locs ls hP hD hS hl)
theorem z_if_eq (E : zE p s m args c D tys A nL cc own Ts) {x : Int32} {off : Int} {tgt : Nat} (d : decode cc pc = .ok (.ifCond .eq off, 3)) (ht : (pc : Int) + off = (tgt : Int)) (kt : (x = 0) → zW p l e R s m args below meth c D A Q nL ws cells slots tgt lv rest) (kf : ¬ (x = 0) → zW p l e R s m args below meth c D A Q nL ws cells slots (pc + 3) lv rest) : zW p l e R s m args below meth c D A Q nL ws cells slots pc lv (.int x :: rest) := fun H locs ls hP hD hS hl => lv_if_eq E.hx E.hb d ht (fun h => kt h H locs ls hP hD hS hl) (fun h => kf h H locs ls hP hD hS hl)
theorem z_if_eq_t (E : zE p s m args c D tys A nL cc own Ts) {x : Int32} {off : Int} {tgt : Nat} (d : decode cc pc = .ok (.ifCond .eq off, 3)) (ht : (pc : Int) + off = (tgt : Int)) (h0 : (x = 0)) (kt : zW p l e R s m args below meth c D A Q nL ws cells slots tgt lv rest) : zW p l e R s m args below meth c D A Q nL ws cells slots pc lv (.int x :: rest) := z_if_eq E d ht (fun _ => kt) (fun h => absurd h0 h)
theorem z_if_eq_f (E : zE p s m args c D tys A nL cc own Ts) {x : Int32} {off : Int} {tgt : Nat} (d : decode cc pc = .ok (.ifCond .eq off, 3)) (ht : (pc : Int) + off = (tgt : Int)) (h0 : ¬ (x = 0)) (kf : zW p l e R s m args below meth c D A Q nL ws cells slots (pc + 3) lv rest) : zW p l e R s m args below meth c D A Q nL ws cells slots pc lv (.int x :: rest) := z_if_eq E d ht (fun h => absurd h h0) (fun _ => kf)
theorem z_icmp_eq (E : zE p s m args c D tys A nL cc own Ts) {x y : Int32} {off : Int} {tgt : Nat} (d : decode cc pc = .ok (.if_icmp .eq off, 3)) (ht : (pc : Int) + off = (tgt : Int)) (kt : (x = y) → zW p l e R s m args below meth c D A Q nL ws cells slots tgt lv rest) (kf : ¬ (x = y) → zW p l e R s m args below meth c D A Q nL ws cells slots (pc + 3) lv rest) : zW p l e R s m args below meth c D A Q nL ws cells slots pc lv (.int y :: .int x :: rest) := fun H locs ls hP hD hS hl => lv_icmp_eq E.hx E.hb d ht (fun h => kt h H locs ls hP hD hS hl) (fun h => kf h H locs ls hP hD hS hl)
theorem z_icmp_eq_t (E : zE p s m args c D tys A nL cc own Ts) {x y : Int32} {off : Int} {tgt : Nat} (d : decode cc pc = .ok (.if_icmp .eq off, 3)) (ht : (pc : Int) + off = (tgt : Int)) (h0 : (x = y)) (kt : zW p l e R s m args below meth c D A Q nL ws cells slots tgt lv rest) : zW p l e R s m args below meth c D A Q nL ws cells slots pc lv (.int y :: .int x :: rest) := z_icmp_eq E d ht (fun _ => kt) (fun h => absurd h0 h)
theorem z_icmp_eq_f (E : zE p s m args c D tys A nL cc own Ts) {x y : Int32} {off : Int} {tgt : Nat} (d : decode cc pc = .ok (.if_icmp .eq off, 3)) (ht : (pc : Int) + off = (tgt : Int)) (h0 : ¬ (x = y)) (kf : zW p l e R s m args below meth c D A Q nL ws cells slots (pc + 3) lv rest) : zW p l e R s m args below meth c D A Q nL ws cells slots pc lv (.int y :: .int x :: rest) := z_icmp_eq E d ht (fun h => absurd h h0) (fun _ => kf)
theorem z_if_ne (E : zE p s m args c D tys A nL cc own Ts) {x : Int32} {off : Int} {tgt : Nat} (d : decode cc pc = .ok (.ifCond .ne off, 3)) (ht : (pc : Int) + off = (tgt : Int)) (kt : (¬ x = 0) → zW p l e R s m args below meth c D A Q nL ws cells slots tgt lv rest) (kf : (x = 0) → zW p l e R s m args below meth c D A Q nL ws cells slots (pc + 3) lv rest) : zW p l e R s m args below meth c D A Q nL ws cells slots pc lv (.int x :: rest) := fun H locs ls hP hD hS hl => lv_if_ne E.hx E.hb d ht (fun h => kt h H locs ls hP hD hS hl) (fun h => kf h H locs ls hP hD hS hl)
theorem z_if_ne_t (E : zE p s m args c D tys A nL cc own Ts) {x : Int32} {off : Int} {tgt : Nat} (d : decode cc pc = .ok (.ifCond .ne off, 3)) (ht : (pc : Int) + off = (tgt : Int)) (h0 : (¬ x = 0)) (kt : zW p l e R s m args below meth c D A Q nL ws cells slots tgt lv rest) : zW p l e R s m args below meth c D A Q nL ws cells slots pc lv (.int x :: rest) := z_if_ne E d ht (fun _ => kt) (fun h => absurd h h0)
theorem z_if_ne_f (E : zE p s m args c D tys A nL cc own Ts) {x : Int32} {off : Int} {tgt : Nat} (d : decode cc pc = .ok (.ifCond .ne off, 3)) (ht : (pc : Int) + off = (tgt : Int)) (h0 : (x = 0)) (kf : zW p l e R s m args below meth c D A Q nL ws cells slots (pc + 3) lv rest) : zW p l e R s m args below meth c D A Q nL ws cells slots pc lv (.int x :: rest) := z_if_ne E d ht (fun h => absurd h0 h) (fun _ => kf)
theorem z_icmp_ne (E : zE p s m args c D tys A nL cc own Ts) {x y : Int32} {off : Int} {tgt : Nat} (d : decode cc pc = .ok (.if_icmp .ne off, 3)) (ht : (pc : Int) + off = (tgt : Int)) (kt : (¬ x = y) → zW p l e R s m args below meth c D A Q nL ws cells slots tgt lv rest) (kf : (x = y) → zW p l e R s m args below meth c D A Q nL ws cells slots (pc + 3) lv rest) : zW p l e R s m args below meth c D A Q nL ws cells slots pc lv (.int y :: .int x :: rest) := fun H locs ls hP hD hS hl => lv_icmp_ne E.hx E.hb d ht (fun h => kt h H locs ls hP hD hS hl) (fun h => kf h H locs ls hP hD hS hl)
theorem z_icmp_ne_t (E : zE p s m args c D tys A nL cc own Ts) {x y : Int32} {off : Int} {tgt : Nat} (d : decode cc pc = .ok (.if_icmp .ne off, 3)) (ht : (pc : Int) + off = (tgt : Int)) (h0 : (¬ x = y)) (kt : zW p l e R s m args below meth c D A Q nL ws cells slots tgt lv rest) : zW p l e R s m args below meth c D A Q nL ws cells slots pc lv (.int y :: .int x :: rest) := z_icmp_ne E d ht (fun _ => kt) (fun h => absurd h h0)
theorem z_icmp_ne_f (E : zE p s m args c D tys A nL cc own Ts) {x y : Int32} {off : Int} {tgt : Nat} (d : decode cc pc = .ok (.if_icmp .ne off, 3)) (ht : (pc : Int) + off = (tgt : Int)) (h0 : (x = y)) (kf : zW p l e R s m args below meth c D A Q nL ws cells slots (pc + 3) lv rest) : zW p l e R s m args below meth c D A Q nL ws cells slots pc lv (.int y :: .int x :: rest) := z_icmp_ne E d ht (fun h => absurd h0 h) (fun _ => kf)
theorem z_if_lt (E : zE p s m args c D tys A nL cc own Ts) {x : Int32} {off : Int} {tgt : Nat} (d : decode cc pc = .ok (.ifCond .lt off, 3)) (ht : (pc : Int) + off = (tgt : Int)) (kt : (x < 0) → zW p l e R s m args below meth c D A Q nL ws cells slots tgt lv rest) (kf : ¬ (x < 0) → zW p l e R s m args below meth c D A Q nL ws cells slots (pc + 3) lv rest) : zW p l e R s m args below meth c D A Q nL ws cells slots pc lv (.int x :: rest) := fun H locs ls hP hD hS hl => lv_if_lt E.hx E.hb d ht (fun h => kt h H locs ls hP hD hS hl) (fun h => kf h H locs ls hP hD hS hl)
theorem z_if_lt_t (E : zE p s m args c D tys A nL cc own Ts) {x : Int32} {off : Int} {tgt : Nat} (d : decode cc pc = .ok (.ifCond .lt off, 3)) (ht : (pc : Int) + off = (tgt : Int)) (h0 : (x < 0)) (kt : zW p l e R s m args below meth c D A Q nL ws cells slots tgt lv rest) : zW p l e R s m args below meth c D A Q nL ws cells slots pc lv (.int x :: rest) := z_if_lt E d ht (fun _ => kt) (fun h => absurd h0 h)
theorem z_if_lt_f (E : zE p s m args c D tys A nL cc own Ts) {x : Int32} {off : Int} {tgt : Nat} (d : decode cc pc = .ok (.ifCond .lt off, 3)) (ht : (pc : Int) + off = (tgt : Int)) (h0 : ¬ (x < 0)) (kf : zW p l e R s m args below meth c D A Q nL ws cells slots (pc + 3) lv rest) : zW p l e R s m args below meth c D A Q nL ws cells slots pc lv (.int x :: rest) := z_if_lt E d ht (fun h => absurd h h0) (fun _ => kf)
theorem z_icmp_lt (E : zE p s m args c D tys A nL cc own Ts) {x y : Int32} {off : Int} {tgt : Nat} (d : decode cc pc = .ok (.if_icmp .lt off, 3)) (ht : (pc : Int) + off = (tgt : Int)) (kt : (x < y) → zW p l e R s m args below meth c D A Q nL ws cells slots tgt lv rest) (kf : ¬ (x < y) → zW p l e R s m args below meth c D A Q nL ws cells slots (pc + 3) lv rest) : zW p l e R s m args below meth c D A Q nL ws cells slots pc lv (.int y :: .int x :: rest) := fun H locs ls hP hD hS hl => lv_icmp_lt E.hx E.hb d ht (fun h => kt h H locs ls hP hD hS hl) (fun h => kf h H locs ls hP hD hS hl)
theorem z_icmp_lt_t (E : zE p s m args c D tys A nL cc own Ts) {x y : Int32} {off : Int} {tgt : Nat} (d : decode cc pc = .ok (.if_icmp .lt off, 3)) (ht : (pc : Int) + off = (tgt : Int)) (h0 : (x < y)) (kt : zW p l e R s m args below meth c D A Q nL ws cells slots tgt lv rest) : zW p l e R s m args below meth c D A Q nL ws cells slots pc lv (.int y :: .int x :: rest) := z_icmp_lt E d ht (fun _ => kt) (fun h => absurd h0 h)
theorem z_icmp_lt_f (E : zE p s m args c D tys A nL cc own Ts) {x y : Int32} {off : Int} {tgt : Nat} (d : decode cc pc = .ok (.if_icmp .lt off, 3)) (ht : (pc : Int) + off = (tgt : Int)) (h0 : ¬ (x < y)) (kf : zW p l e R s m args below meth c D A Q nL ws cells slots (pc + 3) lv rest) : zW p l e R s m args below meth c D A Q nL ws cells slots pc lv (.int y :: .int x :: rest) := z_icmp_lt E d ht (fun h => absurd h h0) (fun _ => kf)
theorem z_if_ge (E : zE p s m args c D tys A nL cc own Ts) {x : Int32} {off : Int} {tgt : Nat} (d : decode cc pc = .ok (.ifCond .ge off, 3)) (ht : (pc : Int) + off = (tgt : Int)) (kt : (0 ≤ x) → zW p l e R s m args below meth c D A Q nL ws cells slots tgt lv rest) (kf : ¬ (0 ≤ x) → zW p l e R s m args below meth c D A Q nL ws cells slots (pc + 3) lv rest) : zW p l e R s m args below meth c D A Q nL ws cells slots pc lv (.int x :: rest) := fun H locs ls hP hD hS hl => lv_if_ge E.hx E.hb d ht (fun h => kt h H locs ls hP hD hS hl) (fun h => kf h H locs ls hP hD hS hl)
theorem z_if_ge_t (E : zE p s m args c D tys A nL cc own Ts) {x : Int32} {off : Int} {tgt : Nat} (d : decode cc pc = .ok (.ifCond .ge off, 3)) (ht : (pc : Int) + off = (tgt : Int)) (h0 : (0 ≤ x)) (kt : zW p l e R s m args below meth c D A Q nL ws cells slots tgt lv rest) : zW p l e R s m args below meth c D A Q nL ws cells slots pc lv (.int x :: rest) := z_if_ge E d ht (fun _ => kt) (fun h => absurd h0 h)
theorem z_if_ge_f (E : zE p s m args c D tys A nL cc own Ts) {x : Int32} {off : Int} {tgt : Nat} (d : decode cc pc = .ok (.ifCond .ge off, 3)) (ht : (pc : Int) + off = (tgt : Int)) (h0 : ¬ (0 ≤ x)) (kf : zW p l e R s m args below meth c D A Q nL ws cells slots (pc + 3) lv rest) : zW p l e R s m args below meth c D A Q nL ws cells slots pc lv (.int x :: rest) := z_if_ge E d ht (fun h => absurd h h0) (fun _ => kf)
theorem z_icmp_ge (E : zE p s m args c D tys A nL cc own Ts) {x y : Int32} {off : Int} {tgt : Nat} (d : decode cc pc = .ok (.if_icmp .ge off, 3)) (ht : (pc : Int) + off = (tgt : Int)) (kt : (y ≤ x) → zW p l e R s m args below meth c D A Q nL ws cells slots tgt lv rest) (kf : ¬ (y ≤ x) → zW p l e R s m args below meth c D A Q nL ws cells slots (pc + 3) lv rest) : zW p l e R s m args below meth c D A Q nL ws cells slots pc lv (.int y :: .int x :: rest) := fun H locs ls hP hD hS hl => lv_icmp_ge E.hx E.hb d ht (fun h => kt h H locs ls hP hD hS hl) (fun h => kf h H locs ls hP hD hS hl)
theorem z_icmp_ge_t (E : zE p s m args c D tys A nL cc own Ts) {x y : Int32} {off : Int} {tgt : Nat} (d : decode cc pc = .ok (.if_icmp .ge off, 3)) (ht : (pc : Int) + off = (tgt : Int)) (h0 : (y ≤ x)) (kt : zW p l e R s m args below meth c D A Q nL ws cells slots tgt lv rest) : zW p l e R s m args below meth c D A Q nL ws cells slots pc lv (.int y :: .int x :: rest) := z_icmp_ge E d ht (fun _ => kt) (fun h => absurd h0 h)
theorem z_icmp_ge_f (E : zE p s m args c D tys A nL cc own Ts) {x y : Int32} {off : Int} {tgt : Nat} (d : decode cc pc = .ok (.if_icmp .ge off, 3)) (ht : (pc : Int) + off = (tgt : Int)) (h0 : ¬ (y ≤ x)) (kf : zW p l e R s m args below meth c D A Q nL ws cells slots (pc + 3) lv rest) : zW p l e R s m args below meth c D A Q nL ws cells slots pc lv (.int y :: .int x :: rest) := z_icmp_ge E d ht (fun h => absurd h h0) (fun _ => kf)
theorem z_if_gt (E : zE p s m args c D tys A nL cc own Ts) {x : Int32} {off : Int} {tgt : Nat} (d : decode cc pc = .ok (.ifCond .gt off, 3)) (ht : (pc : Int) + off = (tgt : Int)) (kt : (0 < x) → zW p l e R s m args below meth c D A Q nL ws cells slots tgt lv rest) (kf : ¬ (0 < x) → zW p l e R s m args below meth c D A Q nL ws cells slots (pc + 3) lv rest) : zW p l e R s m args below meth c D A Q nL ws cells slots pc lv (.int x :: rest) := fun H locs ls hP hD hS hl => lv_if_gt E.hx E.hb d ht (fun h => kt h H locs ls hP hD hS hl) (fun h => kf h H locs ls hP hD hS hl)
theorem z_if_gt_t (E : zE p s m args c D tys A nL cc own Ts) {x : Int32} {off : Int} {tgt : Nat} (d : decode cc pc = .ok (.ifCond .gt off, 3)) (ht : (pc : Int) + off = (tgt : Int)) (h0 : (0 < x)) (kt : zW p l e R s m args below meth c D A Q nL ws cells slots tgt lv rest) : zW p l e R s m args below meth c D A Q nL ws cells slots pc lv (.int x :: rest) := z_if_gt E d ht (fun _ => kt) (fun h => absurd h0 h)
theorem z_if_gt_f (E : zE p s m args c D tys A nL cc own Ts) {x : Int32} {off : Int} {tgt : Nat} (d : decode cc pc = .ok (.ifCond .gt off, 3)) (ht : (pc : Int) + off = (tgt : Int)) (h0 : ¬ (0 < x)) (kf : zW p l e R s m args below meth c D A Q nL ws cells slots (pc + 3) lv rest) : zW p l e R s m args below meth c D A Q nL ws cells slots pc lv (.int x :: rest) := z_if_gt E d ht (fun h => absurd h h0) (fun _ => kf)
theorem z_icmp_gt (E : zE p s m args c D tys A nL cc own Ts) {x y : Int32} {off : Int} {tgt : Nat} (d : decode cc pc = .ok (.if_icmp .gt off, 3)) (ht : (pc : Int) + off = (tgt : Int)) (kt : (y < x) → zW p l e R s m args below meth c D A Q nL ws cells slots tgt lv rest) (kf : ¬ (y < x) → zW p l e R s m args below meth c D A Q nL ws cells slots (pc + 3) lv rest) : zW p l e R s m args below meth c D A Q nL ws cells slots pc lv (.int y :: .int x :: rest) := fun H locs ls hP hD hS hl => lv_icmp_gt E.hx E.hb d ht (fun h => kt h H locs ls hP hD hS hl) (fun h => kf h H locs ls hP hD hS hl)
theorem z_icmp_gt_t (E : zE p s m args c D tys A nL cc own Ts) {x y : Int32} {off : Int} {tgt : Nat} (d : decode cc pc = .ok (.if_icmp .gt off, 3)) (ht : (pc : Int) + off = (tgt : Int)) (h0 : (y < x)) (kt : zW p l e R s m args below meth c D A Q nL ws cells slots tgt lv rest) : zW p l e R s m args below meth c D A Q nL ws cells slots pc lv (.int y :: .int x :: rest) := z_icmp_gt E d ht (fun _ => kt) (fun h => absurd h0 h)
theorem z_icmp_gt_f (E : zE p s m args c D tys A nL cc own Ts) {x y : Int32} {off : Int} {tgt : Nat} (d : decode cc pc = .ok (.if_icmp .gt off, 3)) (ht : (pc : Int) + off = (tgt : Int)) (h0 : ¬ (y < x)) (kf : zW p l e R s m args below meth c D A Q nL ws cells slots (pc + 3) lv rest) : zW p l e R s m args below meth c D A Q nL ws cells slots pc lv (.int y :: .int x :: rest) := z_icmp_gt E d ht (fun h => absurd h h0) (fun _ => kf)
theorem z_if_le (E : zE p s m args c D tys A nL cc own Ts) {x : Int32} {off : Int} {tgt : Nat} (d : decode cc pc = .ok (.ifCond .le off, 3)) (ht : (pc : Int) + off = (tgt : Int)) (kt : (x ≤ 0) → zW p l e R s m args below meth c D A Q nL ws cells slots tgt lv rest) (kf : ¬ (x ≤ 0) → zW p l e R s m args below meth c D A Q nL ws cells slots (pc + 3) lv rest) : zW p l e R s m args below meth c D A Q nL ws cells slots pc lv (.int x :: rest) := fun H locs ls hP hD hS hl => lv_if_le E.hx E.hb d ht (fun h => kt h H locs ls hP hD hS hl) (fun h => kf h H locs ls hP hD hS hl)
theorem z_if_le_t (E : zE p s m args c D tys A nL cc own Ts) {x : Int32} {off : Int} {tgt : Nat} (d : decode cc pc = .ok (.ifCond .le off, 3)) (ht : (pc : Int) + off = (tgt : Int)) (h0 : (x ≤ 0)) (kt : zW p l e R s m args below meth c D A Q nL ws cells slots tgt lv rest) : zW p l e R s m args below meth c D A Q nL ws cells slots pc lv (.int x :: rest) := z_if_le E d ht (fun _ => kt) (fun h => absurd h0 h)
theorem z_if_le_f (E : zE p s m args c D tys A nL cc own Ts) {x : Int32} {off : Int} {tgt : Nat} (d : decode cc pc = .ok (.ifCond .le off, 3)) (ht : (pc : Int) + off = (tgt : Int)) (h0 : ¬ (x ≤ 0)) (kf : zW p l e R s m args below meth c D A Q nL ws cells slots (pc + 3) lv rest) : zW p l e R s m args below meth c D A Q nL ws cells slots pc lv (.int x :: rest) := z_if_le E d ht (fun h => absurd h h0) (fun _ => kf)
theorem z_icmp_le (E : zE p s m args c D tys A nL cc own Ts) {x y : Int32} {off : Int} {tgt : Nat} (d : decode cc pc = .ok (.if_icmp .le off, 3)) (ht : (pc : Int) + off = (tgt : Int)) (kt : (x ≤ y) → zW p l e R s m args below meth c D A Q nL ws cells slots tgt lv rest) (kf : ¬ (x ≤ y) → zW p l e R s m args below meth c D A Q nL ws cells slots (pc + 3) lv rest) : zW p l e R s m args below meth c D A Q nL ws cells slots pc lv (.int y :: .int x :: rest) := fun H locs ls hP hD hS hl => lv_icmp_le E.hx E.hb d ht (fun h => kt h H locs ls hP hD hS hl) (fun h => kf h H locs ls hP hD hS hl)
theorem z_icmp_le_t (E : zE p s m args c D tys A nL cc own Ts) {x y : Int32} {off : Int} {tgt : Nat} (d : decode cc pc = .ok (.if_icmp .le off, 3)) (ht : (pc : Int) + off = (tgt : Int)) (h0 : (x ≤ y)) (kt : zW p l e R s m args below meth c D A Q nL ws cells slots tgt lv rest) : zW p l e R s m args below meth c D A Q nL ws cells slots pc lv (.int y :: .int x :: rest) := z_icmp_le E d ht (fun _ => kt) (fun h => absurd h0 h)
theorem z_icmp_le_f (E : zE p s m args c D tys A nL cc own Ts) {x y : Int32} {off : Int} {tgt : Nat} (d : decode cc pc = .ok (.if_icmp .le off, 3)) (ht : (pc : Int) + off = (tgt : Int)) (h0 : ¬ (x ≤ y)) (kf : zW p l e R s m args below meth c D A Q nL ws cells slots (pc + 3) lv rest) : zW p l e R s m args below meth c D A Q nL ws cells slots pc lv (.int y :: .int x :: rest) := z_icmp_le E d ht (fun h => absurd h h0) (fun _ => kf)
theorem z_lookup (E : zE p s m args c D tys A nL cc own Ts) {dflt : Int} {ps : Array (Int × Int)} {len : Nat} {x : Int32} {off : Int} {tgt : Nat} (d : decode cc pc = .ok (.lookupswitch dflt ps, len)) (hp : (ps.toList.zip (ps.toList.drop 1)).all (fun (a, next) => a.1 < next.1) = true) (ho : Op.lookupswitch.offset ps.toList dflt x.toInt = off) (ht : (pc : Int) + off = (tgt : Int)) (k : zW p l e R s m args below meth c D A Q nL ws cells slots tgt lv rest) : zW p l e R s m args below meth c D A Q nL ws cells slots pc lv (.int x :: rest) := fun H locs ls hP hD hS hl => lv_lookup E.hx E.hb d hp ho ht (k H locs ls hP hD hS hl)
theorem z_tableOut (E : zE p s m args c D tys A nL cc own Ts) {dflt lo hi : Int} {offs : Array Int} {len : Nat} {x : Int32} {tgt : Nat} (d : decode cc pc = .ok (.tableswitch dflt lo hi offs, len)) (h : x.toInt < lo ∨ hi < x.toInt) (ht : (pc : Int) + dflt = (tgt : Int)) (k : zW p l e R s m args below meth c D A Q nL ws cells slots tgt lv rest) : zW p l e R s m args below meth c D A Q nL ws cells slots pc lv (.int x :: rest) := fun H locs ls hP hD hS hl => lv_tableOut E.hx E.hb d h ht (k H locs ls hP hD hS hl)
theorem z_tableIn (E : zE p s m args c D tys A nL cc own Ts) {dflt lo hi : Int} {offs : Array Int} {len : Nat} {x : Int32} {off : Int} {tgt : Nat} (d : decode cc pc = .ok (.tableswitch dflt lo hi offs, len)) (h1 : ¬ x.toInt < lo) (h2 : ¬ hi < x.toInt) (ho : offs[(x.toInt - lo).toNat]? = some off) (ht : (pc : Int) + off = (tgt : Int)) (k : zW p l e R s m args below meth c D A Q nL ws cells slots tgt lv rest) : zW p l e R s m args below meth c D A Q nL ws cells slots pc lv (.int x :: rest) := fun H locs ls hP hD hS hl => lv_tableIn E.hx E.hb d h1 h2 ho ht (k H locs ls hP hD hS hl)
theorem z_widen {k n : Nat} (h1 : cells ≤ k) (h2 : slots ≤ n) (kk : zW p l e R s m args below meth c D A Q nL ws k n pc lv rest) : zW p l e R s m args below meth c D A Q nL ws cells slots pc lv rest := fun H locs ls hP hD hS hl => W.widen h1 h2 (kk H locs ls hP hD hS hl)
theorem z_cs {k n : Nat} (h1 : cells = k) (h2 : slots = n) (kk : zW p l e R s m args below meth c D A Q nL ws k n pc lv rest) : zW p l e R s m args below meth c D A Q nL ws cells slots pc lv rest := h1 ▸ h2 ▸ kk
/-- other names of the same -/
theorem z_eq {ws' : va_W} {lv' : List (Nat × Value)} {st st' : List Value} (h1 : ws = ws') (h2 : lv = lv') (h3 : st = st') (kk : zW p l e R s m args below meth c D A Q nL ws' cells slots pc lv' st') : zW p l e R s m args below meth c D A Q nL ws cells slots pc lv st := h1 ▸ h2 ▸ h3 ▸ kk
/-- fewer locals -/
theorem z_lv (is : List Nat) {lv' : List (Nat × Value)} (h2 : lv_pick lv is = lv') (kk : zW p l e R s m args below meth c D A Q nL ws cells slots pc lv' rest) : zW p l e R s m args below meth c D A Q nL ws cells slots pc lv rest := fun H locs ls hP hD hS hl => kk H locs ls hP hD hS (lv_sub hl is h2)
theorem z_get (E : zE p s m args c D tys A nL cc own Ts) {ref C : String} {T : u_T} {N ci index : Nat} (q0 : Nat) {a : Nat} {fs : List Value} (he : ws[q0]? = some (a, .inr (ci, fs))) (hc : vwCl[ci]? = some (C, T, N)) (hin : ∀ w ∈ u_ws C T N, w ∈ Ts) (k0 : Nat) (hk : k0 < N) (hlink : Cond.fieldLink own index ref (T k0).2.1 (T k0).2.2.1 ∈ Ts) (hsame : (T k0).1 = ref) {v : Value} (hv : fs[k0]? = some v) (d : decode cc pc = .ok (.getfield index, 3)) (k : zW p l e R s m args below meth c D A Q nL ws cells slots (pc + 3) lv (v :: rest)) : zW p l e R s m args below meth c D A Q nL ws cells slots pc lv (.ref a :: rest) := fun H locs ls hP hD hS hl => va_get (own := own) (C := C) (T := T) (N := N) (ref := ref) E.hx E.hb E.hts hin E.hown E.hK hP q0 he hc k0 hk (E.hts _ hlink) (by subst hsame; exact fun _ h => h) hv d (k H locs ls hP hD hS hl)
theorem z_put (E : zE p s m args c D tys A nL cc own Ts) {ref C : String} {T : u_T} {N ci index : Nat} (q0 : Nat) {a : Nat} {fs : List Value} (he : ws[q0]? = some (a, .inr (ci, fs))) (hc : vwCl[ci]? = some (C, T, N)) (hin : ∀ w ∈ u_ws C T N, w ∈ Ts) (ty0 : Nat → FieldType) (hty : ∀ k, k < N → parseFieldDescriptor (T k).2.2.1 = some (ty0 k)) (hnm : ∀ a, a < N → ∀ b, b < N → a ≠ b → (T a).2.1 ≠ (T b).2.1) (k0 : Nat) (hk : k0 < N) (hlink : Cond.fieldLink own index ref (T k0).2.1 (T k0).2.2.1 ∈ Ts) (hsame : (T k0).1 = ref) (hfin : (T k0).2.2.2 = false) {v : Value} (hn : narrow (ty0 k0) v = v) (hfit : fits (ty0 k0) v = true) (hlen : k0 < fs.length) {ws' : va_W} (hset : ws.set q0 (a, .inr (ci, fs.set k0 v)) = ws') (d : decode cc pc = .ok (.putfield index, 3)) (k : zW p l e R s m args below meth c D A Q nL ws' cells slots (pc + 3) lv rest) : zW p l e R s m args below meth c D A Q nL ws cells slots pc lv (v :: .ref a :: rest) := fun H locs ls hP hD hS hl => va_put (own := own) (C := C) (T := T) (N := N) (ref := ref) E.hx E.hb E.hts hin ty0 hty hnm E.hown E.hK hP hD hS q0 he hc k0 hk (E.hts _ hlink) (by subst hsame; exact fun _ h => h) hfin (hty k0 hk) hn hfit hlen d (fun H1 locs1 hP1 hD1 hS1 => k H1 locs1 ls (hset ▸ hP1) (hset ▸ hD1) hS1 hl)
theorem z_iald (E : zE p s m args c D tys A nL cc own Ts) (q0 t0 : Nat) {a n : Nat} {cA : ClassId} {f : Nat → Int32} (ha : ws[q0]? = some (a, .inl (cA, n, .inl f))) (ht : tys[t0]? = some (cA, .int)) {i : Int32} (hin : vp_in i n) {v : Int32} (hv : f i.toNatClampNeg = v) (d : decode cc pc = .ok (.iaload, 1)) (k : zW p l e R s m args below meth c D A Q nL ws cells slots (pc + 1) lv (.int v :: rest)) : zW p l e R s m args below meth c D A Q nL ws cells slots pc lv (.int i :: .ref a :: rest) := fun H locs ls hP hD hS hl => va_iald E.hx E.hb E.hK hP q0 t0 ha ht hin d (by rw [hv]; exact (k H locs ls hP hD hS hl))
theorem z_iast (E : zE p s m args c D tys A nL cc own Ts) (q0 t0 : Nat) {a n : Nat} {cA : ClassId} {f : Nat → Int32} (ha : ws[q0]? = some (a, .inl (cA, n, .inl f))) (ht : tys[t0]? = some (cA, .int)) {i x : Int32} (hin : vp_in i n) {ws' : va_W} (hset : ws.set q0 (a, .inl (cA, n, .inl (upd f i.toNatClampNeg x))) = ws') (d : decode cc pc = .ok (.iastore, 1)) (k : zW p l e R s m args below meth c D A Q nL ws' cells slots (pc + 1) lv rest) : zW p l e R s m args below meth c D A Q nL ws cells slots pc lv (.int x :: .int i :: .ref a :: rest) := fun H locs ls hP hD hS hl => va_iast E.hx E.hb E.hK hP hD hS q0 t0 ha ht hin d (fun H1 locs1 hP1 hD1 hS1 => k H1 locs1 ls (hset ▸ hP1) (hset ▸ hD1) hS1 hl)
theorem z_lald (E : zE p s m args c D tys A nL cc own Ts) (q0 t0 : Nat) {a n : Nat} {cA : ClassId} {f : Nat → Int64} (ha : ws[q0]? = some (a, .inl (cA, n, .inr (.inl f)))) (ht : tys[t0]? = some (cA, .long)) {i : Int32} (hin : vp_in i n) {v : Int64} (hv : f i.toNatClampNeg = v) (d : decode cc pc = .ok (.laload, 1)) (k : zW p l e R s m args below meth c D A Q nL ws cells slots (pc + 1) lv (.long v :: rest)) : zW p l e R s m args below meth c D A Q nL ws cells slots pc lv (.int i :: .ref a :: rest) := fun H locs ls hP hD hS hl => va_lald E.hx E.hb E.hK hP q0 t0 ha ht hin d (by rw [hv]; exact (k H locs ls hP hD hS hl))
theorem z_last (E : zE p s m args c D tys A nL cc own Ts) (q0 t0 : Nat) {a n : Nat} {cA : ClassId} {f : Nat → Int64} (ha : ws[q0]? = some (a, .inl (cA, n, .inr (.inl f)))) (ht : tys[t0]? = some (cA, .long)) {i : Int32} {x : Int64} (hin : vp_in i n) {ws' : va_W} (hset : ws.set q0 (a, .inl (cA, n, .inr (.inl (vp_updL f i.toNatClampNeg x)))) = ws') (d : decode cc pc = .ok (.lastore, 1)) (k : zW p l e R s m args below meth c D A Q nL ws' cells slots (pc + 1) lv rest) : zW p l e R s m args below meth c D A Q nL ws cells slots pc lv (.long x :: .int i :: .ref a :: rest) := fun H locs ls hP hD hS hl => va_last E.hx E.hb E.hK hP hD hS q0 t0 ha ht hin d (fun H1 locs1 hP1 hD1 hS1 => k H1 locs1 ls (hset ▸ hP1) (hset ▸ hD1) hS1 hl)
theorem z_aldq (E : zE p s m args c D tys A nL cc own Ts) (q0 t0 : Nat) {a n : Nat} {cA : ClassId} {C : String} {f : Nat → Option Nat} (ha : ws[q0]? = some (a, .inl (cA, n, .inr (.inr (.inr (.inr f)))))) (ht : tys[t0]? = some (cA, .object C)) {i : Int32} (hin : vp_in i n) {v : Value} (hv : va_rf (f i.toNatClampNeg) = v) (d : decode cc pc = .ok (.aaload, 1)) (k : zW p l e R s m args below meth c D A Q nL ws cells slots (pc + 1) lv (v :: rest)) : zW p l e R s m args below meth c D A Q nL ws cells slots pc lv (.int i :: .ref a :: rest) := fun H locs ls hP hD hS hl => va_aldq E.hx E.hb E.hK hP q0 t0 ha ht hin d (by rw [hv]; exact (k H locs ls hP hD hS hl))
theorem z_gets (E : zE p s m args c D tys A nL cc own Ts) {C n0 d0 : String} {v : Value} {index : Nat} (hZ : va_Z C n0 d0 v A s s.heap) (hlink : Cond.fieldLink own index C n0 d0 ∈ Ts) (d : decode cc pc = .ok (.getstatic index, 3)) (k : zW p l e R s m args below meth c D A Q nL ws cells slots (pc + 3) lv (v :: rest)) : zW p l e R s m args below meth c D A Q nL ws cells slots pc lv rest := fun H locs ls hP hD hS hl => va_gets E.hx E.hb hZ hS E.hown (E.hts _ hlink) (fun _ h => h) d (k H locs ls hP hD hS hl)
theorem z_ti (E : zE p s m args c D tys A nL cc own Ts) {t N : Nat} {f : Nat → Value} (hT : va_T .int t N f A s s.heap) {i : Int32} (hin : vp_in i N) {v : Value} (hv : f i.toNatClampNeg = v) (d : decode cc pc = .ok (.iaload, 1)) (k : zW p l e R s m args below meth c D A Q nL ws cells slots (pc + 1) lv (v :: rest)) : zW p l e R s m args below meth c D A Q nL ws cells slots pc lv (.int i :: .ref t :: rest) := fun H locs ls hP hD hS hl => va_ti E.hx E.hb hT hS hin hv d (k H locs ls hP hD hS hl)
theorem z_tlen (E : zE p s m args c D tys A nL cc own Ts) {ty : FieldType} {t N : Nat} {f : Nat → Value} (hT : va_T ty t N f A s s.heap) {v : Int32} (hv : Int32.ofNat N = v) (d : decode cc pc = .ok (.arraylength, 1)) (k : zW p l e R s m args below meth c D A Q nL ws cells slots (pc + 1) lv (.int v :: rest)) : zW p l e R s m args below meth c D A Q nL ws cells slots pc lv (.ref t :: rest) := fun H locs ls hP hD hS hl => va_tlen E.hx E.hb hT hS hv d (k H locs ls hP hD hS hl)
theorem z_mmax (E : zE p s m args c D tys A nL cc own Ts) {index : Nat} {x y : Int32} (w1 : Cond.methodLink own index Lib.Math.max.name ∈ Ts) (w2 : Cond.static Lib.Math.max.name ∈ Ts) (w3 : Cond.initialized "java/lang/Math" ∈ Ts) (w4 : Cond.code Lib.Math.max.name Lib.Math.max.code 2 (some .int) ∈ Ts) (hf : 1 ≤ R.frames) (hlo : (rest.map fun v => v.category).sum + 13 ≤ R.locals) (hc : cells ≤ R.cells) (hs : slots ≤ R.slots) (d : decode cc pc = .ok (.invokestatic index, 3)) (k : zW p l e R s m args below meth c D A Q nL ws cells slots (pc + 3) lv (.int (if x < y then y else x) :: rest)) : zW p l e R s m args below meth c D A Q nL ws cells slots pc lv (.int y :: .int x :: rest) := fun H locs ls hP hD hS hl => va_mmax E.hx E.hb (E.hml.trans hl.1.symm) E.hown (E.hts _ w1) (E.hts _ w2) (E.hts _ w3) (E.hts _ w4) hf hlo hc hs d (k H locs ls hP hD hS hl)
theorem z_mmin (E : zE p s m args c D tys A nL cc own Ts) {index : Nat} {x y : Int32} (w1 : Cond.methodLink own index Lib.Math.min.name ∈ Ts) (w2 : Cond.static Lib.Math.min.name ∈ Ts) (w3 : Cond.initialized "java/lang/Math" ∈ Ts) (w4 : Cond.code Lib.Math.min.name Lib.Math.min.code 2 (some .int) ∈ Ts) (hf : 1 ≤ R.frames) (hlo : (rest.map fun v => v.category).sum + 13 ≤ R.locals) (hc : cells ≤ R.cells) (hs : slots ≤ R.slots) (d : decode cc pc = .ok (.invokestatic index, 3)) (k : zW p l e R s m args below meth c D A Q nL ws cells slots (pc + 3) lv (.int (if y < x then y else x) :: rest)) : zW p l e R s m args below meth c D A Q nL ws cells slots pc lv (.int y :: .int x :: rest) := fun H locs ls hP hD hS hl => va_mmin E.hx E.hb (E.hml.trans hl.1.symm) E.hown (E.hts _ w1) (E.hts _ w2) (E.hts _ w3) (E.hts _ w4) hf hlo hc hs d (k H locs ls hP hD hS hl)
theorem z_mabs (E : zE p s m args c D tys A nL cc own Ts) {index : Nat} {x : Int32} (w1 : Cond.methodLink own index Lib.Math.abs.name ∈ Ts) (w2 : Cond.static Lib.Math.abs.name ∈ Ts) (w3 : Cond.initialized "java/lang/Math" ∈ Ts) (w4 : Cond.code Lib.Math.abs.name Lib.Math.abs.code 1 (some .int) ∈ Ts) (hf : 1 ≤ R.frames) (hlo : (rest.map fun v => v.category).sum + 13 ≤ R.locals) (hc : cells ≤ R.cells) (hs : slots ≤ R.slots) (d : decode cc pc = .ok (.invokestatic index, 3)) (k : zW p l e R s m args below meth c D A Q nL ws cells slots (pc + 3) lv (.int (if 0 ≤ x then x else 0 - x) :: rest)) : zW p l e R s m args below meth c D A Q nL ws cells slots pc lv (.int x :: rest) := fun H locs ls hP hD hS hl => va_mabs E.hx E.hb (E.hml.trans hl.1.symm) E.hown (E.hts _ w1) (E.hts _ w2) (E.hts _ w3) (E.hts _ w4) hf hlo hc hs d (k H locs ls hP hD hS hl)
end ZB
end
section
/-! contracts over one world, their ends, their calls -/
section ZC
/-- the words of a throw that tables may warm -/
def zTW : List Cond := [.castable "java/lang/IndexOutOfBoundsException" "java/lang/IndexOutOfBoundsException", .castable "java/lang/IllegalArgumentException" "java/lang/IllegalArgumentException", .castable "java/lang/IllegalStateException" "java/lang/IllegalStateException", .declares (Bundle.initS "java/lang/RuntimeException"), .declares (Bundle.initS "java/lang/Exception"), .declares (Bundle.initS Bundle.tN)]
theorem zTW_warm0 {u U : State} (h : u.vm.Alike U.vm) (k : ∀ w ∈ zTW, w.before #[] u = true) : ∀ w ∈ zTW, w.before #[] U = true := by
  intro w hw
  have h0 := k w hw
  have key : ∀ c : Cond, c ∈ zTW → c.before #[] (u.setVm U.vm) = c.before #[] u := by
    intro c hc
    simp only [zTW, List.mem_cons, List.not_mem_nil, or_false] at hc
    rcases hc with rfl | rfl | rfl | rfl | rfl | rfl
    · exact Cond.castable_setVm h _ _
    · exact Cond.castable_setVm h _ _
    · exact Cond.castable_setVm h _ _
    · exact Cond.declares_setVm h _
    · exact Cond.declares_setVm h _
    · exact Cond.declares_setVm h _
  have h1 : w.before #[] (u.setVm U.vm) = true := (key w hw).trans h0
  have hon : w.onTables = true := by
    simp only [zTW, List.mem_cons, List.not_mem_nil, or_false] at hw
    rcases hw with rfl | rfl | rfl | rfl | rfl | rfl <;> rfl
  exact va_tabs hon (rfl : (u.setVm U.vm).vm = U.vm) h1
theorem zTW_warm {s U : State} (hW : s.WarmedH U.vm) (k : ∀ w ∈ zTW, w.before #[] s = true) : ∀ w ∈ zTW, w.before #[] U = true := zTW_warm0 hW.alike k
/-- what the start's statics hold, outside A -/
def zSK (A : Nat → Prop) (U : State) (H : Heap) : Prop :=
  (∃ t : Nat, va_Z "LadderClimb" "GROUND_PERCENTS" "[I" (.ref t) A U H ∧ va_T .int t 4 (fun j => .int (([5, 25, 40, 60] : List Int32).getD j 0)) A U H) ∧
  (∃ t : Nat, va_Z "LadderClimb" "WALL_PERCENTS" "[I" (.ref t) A U H ∧ va_T .int t 4 (fun j => .int (([0, 20, 45, 60] : List Int32).getD j 0)) A U H) ∧
  vx_Zq Bundle.tN "UNASSIGNED_STACK" Bundle.steD A U H ∧ vx_Zq Bundle.tN "SUPPRESSED_SENTINEL" Bundle.listD A U H ∧
  (∃ a : Nat, vk_R RX5 78 "the ladder is full" a U) ∧ (∃ a : Nat, vk_R RX5 140 "nothing is saved" a U) ∧ (∃ a : Nat, vk_R RX5 157 "a ladder has the numbers 0 to 10" a U) ∧ (∃ a : Nat, vk_R RX5 166 "a person has the numbers 0 and 1" a U) ∧ (∃ a : Nat, vk_R RX5 199 "there are the counts 0 to 5" a U) ∧ (∃ a : Nat, vk_R RX5 282 "no such ladder" a U) ∧ (∃ a : Nat, vk_R RX5 293 "no such person" a U) ∧ (∃ a : Nat, vk_R RX5 295 "out of range" a U) ∧ va_Nw (.fieldLinkNest RX2 91 RX5 "GROUND_PERCENTS" "[I" RX5) U ∧ va_Nw (.fieldLinkNest RX2 94 RX5 "WALL_PERCENTS" "[I" RX5) U ∧ va_Nw (.methodLinkNest RX3 24 yX2_init RX5) U ∧ va_Nw (.methodLinkNest RX5 25 yX4_init RX5) U ∧ va_Nw (.methodLinkNest RX4 24 yX1_init RX5) U ∧ va_Nw (.methodLinkNest RX5 32 yX2_init RX5) U ∧ ∀ w ∈ zTW, w.before #[] U = true

theorem zSK.narrow {A B : Nat → Prop} {U : State} {H : Heap} (h : zSK A U H) (hAB : ∀ q, B q → A q) : zSK B U H := by
  obtain ⟨⟨t1, a1, b1⟩, ⟨t2, a2, b2⟩, h3, h4, h5⟩ := h
  exact ⟨⟨t1, a1.narrow hAB, b1.narrow hAB⟩, ⟨t2, a2.narrow hAB, b2.narrow hAB⟩, h3.narrow hAB, h4.narrow hAB, h5⟩
theorem zSK.kept {A : Nat → Prop} {U : State} {H H1 : Heap} (h : zSK A U H) (hq : ∀ a : Nat, a < H.size → ¬ A a → H1[a]? = H[a]?) : zSK A U H1 := by
  obtain ⟨⟨t1, a1, b1⟩, ⟨t2, a2, b2⟩, h3, h4, h5⟩ := h
  exact ⟨⟨t1, a1.kept hq, b1.kept hq⟩, ⟨t2, a2.kept hq, b2.kept hq⟩, h3.kept hq, h4.kept hq, h5⟩
theorem zSK.warm {A : Nat → Prop} {s U : State} {H : Heap} (hW : s.WarmedH U.vm) (h : zSK A s H) : zSK A U H := by
  obtain ⟨⟨t1, a1, b1⟩, ⟨t2, a2, b2⟩, h3, h4, ⟨x1, g1⟩, ⟨x2, g2⟩, ⟨x3, g3⟩, ⟨x4, g4⟩, ⟨x5, g5⟩, ⟨x6, g6⟩, ⟨x7, g7⟩, ⟨x8, g8⟩, n1, n2, n3, n4, n5, n6, tw⟩ := h
  exact ⟨⟨t1, a1.moved hW.alike, b1.moved hW.alike⟩, ⟨t2, a2.moved hW.alike, b2.moved hW.alike⟩, h3.moved hW.alike, h4.moved hW.alike, ⟨x1, g1.warm hW⟩, ⟨x2, g2.warm hW⟩, ⟨x3, g3.warm hW⟩, ⟨x4, g4.warm hW⟩, ⟨x5, g5.warm hW⟩, ⟨x6, g6.warm hW⟩, ⟨x7, g7.warm hW⟩, ⟨x8, g8.warm hW⟩, n1.warmF hW, n2.warmF hW, n3.warmM hW, n4.warmM hW, n5.warmM hW, n6.warmM hW, zTW_warm hW tw⟩
theorem zSK.same {A : Nat → Prop} {s U : State} {H : Heap} (hv : U.vm = s.vm) (h : zSK A s H) : zSK A U H := by
  obtain ⟨⟨t1, a1, b1⟩, ⟨t2, a2, b2⟩, h3, h4, ⟨x1, g1⟩, ⟨x2, g2⟩, ⟨x3, g3⟩, ⟨x4, g4⟩, ⟨x5, g5⟩, ⟨x6, g6⟩, ⟨x7, g7⟩, ⟨x8, g8⟩, n1, n2, n3, n4, n5, n6, tw⟩ := h
  have hal : s.vm.Alike U.vm := by rw [hv]; exact Vm.Alike.refl _
  exact ⟨⟨t1, a1.moved hal, b1.moved hal⟩, ⟨t2, a2.moved hal, b2.moved hal⟩, h3.moved hal, h4.moved hal, ⟨x1, g1.same hv⟩, ⟨x2, g2.same hv⟩, ⟨x3, g3.same hv⟩, ⟨x4, g4.same hv⟩, ⟨x5, g5.same hv⟩, ⟨x6, g6.same hv⟩, ⟨x7, g7.same hv⟩, ⟨x8, g8.same hv⟩, n1.same rfl hv.symm, n2.same rfl hv.symm, n3.same rfl hv.symm, n4.same rfl hv.symm, n5.same rfl hv.symm, n6.same rfl hv.symm, zTW_warm0 (by rw [hv]; exact Vm.Alike.refl _) tw⟩
def zPc (D : va_G) (tys : List (ClassId × FieldType)) (av : List Value) (ws : va_W) (sz : Nat) : Array Value → State → Prop := va_Pc av (fun U => U.heap.size = sz ∧ va_P D vwCl ws U.heap ∧ va_K D vwCl tys U ∧ va_D (fun _ => True) ws ∧ zSK (va_A ws sz) U U.heap)
def zB (D : va_G) (tys : List (ClassId × FieldType)) (A : Nat → Prop) (ws : va_W) (t : State) : Prop := va_P D vwCl ws t.heap ∧ va_K D vwCl tys t ∧ va_D A ws
theorem zPc.blind {D : va_G} {tys : List (ClassId × FieldType)} {av : List Value} {ws : va_W} {sz : Nat} : FrameBlind (zPc D tys av ws sz) := fun a U g mk q => by
  obtain ⟨q0, q1, q2, q3, q4, q5⟩ := q
  exact ⟨q0, q1, q2, va_K.moved (u := U) (U := U.calling g mk a) (Vm.Alike.refl U.vm) q3, q4, zSK.same (s := U) (U := U.calling g mk a) rfl q5⟩
theorem zPc.start {D : va_G} {tys : List (ClassId × FieldType)} {av : List Value} {ws : va_W} {A : Nat → Prop} {s : State} {H : Heap} {locs : List Loc} (hP : va_P D vwCl ws H) (hD : va_D A ws) (hS : va_S A s.heap H locs) (hA : ∀ q, s.heap.size ≤ q → A q) (hK : va_K D vwCl tys s) (hZ : zSK A s s.heap) : ∀ U : State, U.heap = H → s.WarmedH U.vm → zPc D tys av ws H.size av.toArray U := fun U hU hW => by
  subst hU
  refine ⟨rfl, rfl, hP, hK.moved hW.alike, hD.weaken (fun _ _ _ _ => trivial), ?_⟩
  refine zSK.warm hW ((hZ.kept hS.2.1).narrow fun q hq => ?_)
  rcases hq with ⟨k, e0, h⟩ | h
  · exact hD.2 k (q, e0) h
  · exact hA q (Nat.le_trans hS.1 h)
theorem zA.in {ws : va_W} {A : Nat → Prop} {s : State} {H : Heap} {locs : List Loc} (hD : va_D A ws) (hS : va_S A s.heap H locs) (hA : ∀ q, s.heap.size ≤ q → A q) : ∀ q, va_A ws H.size q → A q := fun q hq => by
  rcases hq with ⟨k, e0, h⟩ | h
  · exact hD.2 k (q, e0) h
  · exact hA q (Nat.le_trans hS.1 h)
/-- a contract that returns -/
def zMi (l : Launch) (y : MethodName) (wl : List Cond) (rm : Room) (D : va_G) (tys : List (ClassId × FieldType)) (av : List Value) (ws : va_W) {S : Type} (post : Int32 → S → Prop) (out : S → va_W) (mc ms : Nat) : Prop := ∀ sz : Nat, Met l y wl rm (zPc D tys av ws sz) (va_Qi post (fun u => zB D tys (va_A ws sz) (out u)) (va_A ws sz)) mc ms (va_A ws sz)
/-- .. or throws -/
def zXi (l : Launch) (y : MethodName) (wl : List Cond) (rm : Room) (D : va_G) (tys : List (ClassId × FieldType)) (av : List Value) (ws : va_W) {S SX : Type} (post : Int32 → S → Prop) (out : S → va_W) (px : String → SX → Prop) (outx : SX → va_W) (mc ms : Nat) : Prop := ∀ sz : Nat, vx_Met l y wl rm (zPc D tys av ws sz) (va_Qi post (fun u => zB D tys (va_A ws sz) (out u)) (va_A ws sz)) (vx_X (fun u : String × SX => px u.1 u.2) (fun E u t => E = u.1 ∧ zB D tys (va_A ws sz) (outx u.2) t) (va_A ws sz)) mc ms (va_A ws sz)
/-- a contract that returns -/
def zMl (l : Launch) (y : MethodName) (wl : List Cond) (rm : Room) (D : va_G) (tys : List (ClassId × FieldType)) (av : List Value) (ws : va_W) {S : Type} (post : Int64 → S → Prop) (out : S → va_W) (mc ms : Nat) : Prop := ∀ sz : Nat, Met l y wl rm (zPc D tys av ws sz) (va_Ql post (fun u => zB D tys (va_A ws sz) (out u)) (va_A ws sz)) mc ms (va_A ws sz)
/-- .. or throws -/
def zXl (l : Launch) (y : MethodName) (wl : List Cond) (rm : Room) (D : va_G) (tys : List (ClassId × FieldType)) (av : List Value) (ws : va_W) {S SX : Type} (post : Int64 → S → Prop) (out : S → va_W) (px : String → SX → Prop) (outx : SX → va_W) (mc ms : Nat) : Prop := ∀ sz : Nat, vx_Met l y wl rm (zPc D tys av ws sz) (va_Ql post (fun u => zB D tys (va_A ws sz) (out u)) (va_A ws sz)) (vx_X (fun u : String × SX => px u.1 u.2) (fun E u t => E = u.1 ∧ zB D tys (va_A ws sz) (outx u.2) t) (va_A ws sz)) mc ms (va_A ws sz)
/-- a contract that returns -/
def zMd (l : Launch) (y : MethodName) (wl : List Cond) (rm : Room) (D : va_G) (tys : List (ClassId × FieldType)) (av : List Value) (ws : va_W) {S : Type} (post : UInt64 → S → Prop) (out : S → va_W) (mc ms : Nat) : Prop := ∀ sz : Nat, Met l y wl rm (zPc D tys av ws sz) (va_Qd post (fun u => zB D tys (va_A ws sz) (out u)) (va_A ws sz)) mc ms (va_A ws sz)
/-- .. or throws -/
def zXd (l : Launch) (y : MethodName) (wl : List Cond) (rm : Room) (D : va_G) (tys : List (ClassId × FieldType)) (av : List Value) (ws : va_W) {S SX : Type} (post : UInt64 → S → Prop) (out : S → va_W) (px : String → SX → Prop) (outx : SX → va_W) (mc ms : Nat) : Prop := ∀ sz : Nat, vx_Met l y wl rm (zPc D tys av ws sz) (va_Qd post (fun u => zB D tys (va_A ws sz) (out u)) (va_A ws sz)) (vx_X (fun u : String × SX => px u.1 u.2) (fun E u t => E = u.1 ∧ zB D tys (va_A ws sz) (outx u.2) t) (va_A ws sz)) mc ms (va_A ws sz)
/-- a contract that returns -/
def zMq (l : Launch) (y : MethodName) (wl : List Cond) (rm : Room) (D : va_G) (tys : List (ClassId × FieldType)) (av : List Value) (ws : va_W) {S : Type} (post : Option Nat → S → Prop) (out : S → va_W) (mc ms : Nat) : Prop := ∀ sz : Nat, Met l y wl rm (zPc D tys av ws sz) (va_Qq post (fun u => zB D tys (va_A ws sz) (out u)) (va_A ws sz)) mc ms (va_A ws sz)
/-- .. or throws -/
def zXq (l : Launch) (y : MethodName) (wl : List Cond) (rm : Room) (D : va_G) (tys : List (ClassId × FieldType)) (av : List Value) (ws : va_W) {S SX : Type} (post : Option Nat → S → Prop) (out : S → va_W) (px : String → SX → Prop) (outx : SX → va_W) (mc ms : Nat) : Prop := ∀ sz : Nat, vx_Met l y wl rm (zPc D tys av ws sz) (va_Qq post (fun u => zB D tys (va_A ws sz) (out u)) (va_A ws sz)) (vx_X (fun u : String × SX => px u.1 u.2) (fun E u t => E = u.1 ∧ zB D tys (va_A ws sz) (outx u.2) t) (va_A ws sz)) mc ms (va_A ws sz)
def zMv (l : Launch) (y : MethodName) (wl : List Cond) (rm : Room) (D : va_G) (tys : List (ClassId × FieldType)) (av : List Value) (ws : va_W) {S : Type} (post : S → Prop) (out : S → va_W) (mc ms : Nat) : Prop := ∀ sz : Nat, Met l y wl rm (zPc D tys av ws sz) (va_Qv post (fun u => zB D tys (va_A ws sz) (out u)) (va_A ws sz)) mc ms (va_A ws sz)
def zXv (l : Launch) (y : MethodName) (wl : List Cond) (rm : Room) (D : va_G) (tys : List (ClassId × FieldType)) (av : List Value) (ws : va_W) {S SX : Type} (post : S → Prop) (out : S → va_W) (px : String → SX → Prop) (outx : SX → va_W) (mc ms : Nat) : Prop := ∀ sz : Nat, vx_Met l y wl rm (zPc D tys av ws sz) (va_Qv post (fun u => zB D tys (va_A ws sz) (out u)) (va_A ws sz)) (vx_X (fun u : String × SX => px u.1 u.2) (fun E u t => E = u.1 ∧ zB D tys (va_A ws sz) (outx u.2) t) (va_A ws sz)) mc ms (va_A ws sz)
/-- as Met.ofW, for a method of a class that is not plainly named, itself run by its own code -/
theorem zMetF {l : Launch} {y : MethodName} {ws ws' : List Cond} {rm : Room} {Pc : Array Value → State → Prop} {Qc : Array Value → State → Outcome → State → Prop} {mc ms : Nat} {free : Addr → Prop} {cc : ByteArray} {maxL : Nat} {ret : Option FieldType}
    (hy : plainFor y = true) (hw : ws = Cond.code y cc maxL ret :: ws')
    (body : ∀ p e s m args below meth c s₁, BodyLoose p l y (headSpec ws rm) cc maxL ret e s m args below meth c s₁ → c.maxLocals = maxL → Pc args s →
      W p l e (headSpec ws rm).room s m args below meth c s.heap [] 0 0 (MQ below Qc args s mc ms free) (entryFrame m args maxL)) : Met l y ws rm Pc Qc mc ms free := by
  refine MetFree.of_bodySF (code := cc) (maxLocals := maxL) (ret := ret) hy ?_ ?_
  · intro args s m h hn
    obtain ⟨meth, c, h1, h2, h3, h4, h5, h6, -, -⟩ := Cond.code_spec hn (atoms_spec (ws := ws) h _ (by rw [hw]; exact List.mem_cons_self))
    exact ⟨meth, c, h1, h2, h3, h4, h5, h6⟩
  · intro p e s m args below meth c s₁ B hml hP _
    have hh0 : s₁.heap = s.heap := by rw [B.state]; rfl
    obtain ⟨t, a1, o, b1, b2, b3⟩ := body p e s m args below meth c s₁ B hml hP s₁ hh0 (Stand.of_body B)
    exact ⟨t, o, a1, b1, b2, ⟨b3.1, b3.2⟩⟩
theorem zMiM.of {l : Launch} {y : MethodName} {wl wl' : List Cond} {rm : Room} {D : va_G} {tys : List (ClassId × FieldType)} {av : List Value} {ws : va_W} {cc : ByteArray} {maxL : Nat} {ret : Option FieldType} {mc ms : Nat} {S : Type} {post : Int32 → S → Prop} {out : S → va_W} (hy : plainName y.cls = true) (hw : wl = Cond.code y cc maxL ret :: wl') {lv0 : List (Nat × Value)} (hlen : (lg_sl av).length ≤ maxL) (hlv : lv_args 0 av = lv0)
    (body : ∀ (p : Program) (e : Env) (s : State) (m : MethodId) (args : Array Value) (below : List Frame) (meth : Method) (c : Code), zE p s m args c D tys (va_A ws s.heap.size) maxL cc y.cls wl → zSK (va_A ws s.heap.size) s s.heap → meth.sig.returnType = ret → meth.locks = false → meth.name = y.name →
      zW p l e rm s m args below meth c D (va_A ws s.heap.size) (MQ below (va_Qi post (fun u => zB D tys (va_A ws s.heap.size) (out u)) (va_A ws s.heap.size)) args s mc ms (va_A ws s.heap.size)) maxL ws 0 0 0 lv0 []) : zMi l y wl rm D tys av ws post out mc ms := by
  intro sz
  refine Met.ofW (cc := cc) (maxL := maxL) (ret := ret) hy hw ?_
  intro p e s m args below meth c s₁ B hml hv
  obtain ⟨rfl, hsz, hP, hK, hD0, hZ⟩ := hv
  subst hsz
  have hD := hD0.self (sz := s.heap.size)
  have hl := lv_entry av (n := maxL) hlen
  rw [hlv] at hl
  rw [lg_entry_eq]
  exact body p e s m _ below meth c ⟨B.exec, B.bytes, hml, findClass_of_methodNamed B.named, atoms_spec (ws := wl) B.pre, hK, fun q h => Or.inr h⟩ hZ B.returns B.notSynchronized (name_of_methodNamed B.named B.method).1 s.heap [] _ hP hD va_S.rf hl
theorem zMiX.of {l : Launch} {y : MethodName} {wl wl' : List Cond} {rm : Room} {D : va_G} {tys : List (ClassId × FieldType)} {av : List Value} {ws : va_W} {cc : ByteArray} {maxL : Nat} {ret : Option FieldType} {mc ms : Nat} {S : Type} {post : Int32 → S → Prop} {out : S → va_W} {SX : Type} {px : String → SX → Prop} {outx : SX → va_W} (hy : plainName y.cls = true) (hw : wl = Cond.code y cc maxL ret :: wl') {lv0 : List (Nat × Value)} (hlen : (lg_sl av).length ≤ maxL) (hlv : lv_args 0 av = lv0)
    (body : ∀ (p : Program) (e : Env) (s : State) (m : MethodId) (args : Array Value) (below : List Frame) (meth : Method) (c : Code), zE p s m args c D tys (va_A ws s.heap.size) maxL cc y.cls wl → zSK (va_A ws s.heap.size) s s.heap → meth.sig.returnType = ret → meth.locks = false → (∀ x ∈ c.exceptionTable.toList, False) → meth.name = y.name →
      zW p l e rm s m args below meth c D (va_A ws s.heap.size) (vx_MQ below (va_Qi post (fun u => zB D tys (va_A ws s.heap.size) (out u)) (va_A ws s.heap.size)) (vx_X (fun u : String × SX => px u.1 u.2) (fun E u t => E = u.1 ∧ zB D tys (va_A ws s.heap.size) (outx u.2) t) (va_A ws s.heap.size)) args s mc ms (va_A ws s.heap.size)) maxL ws 0 0 0 lv0 []) : zXi l y wl rm D tys av ws post out px outx mc ms := by
  intro sz
  refine vx_ofW (cc := cc) (maxL := maxL) (ret := ret) hy hw ?_
  intro p e s m args below meth c s₁ B hml htb hv
  obtain ⟨rfl, hsz, hP, hK, hD0, hZ⟩ := hv
  subst hsz
  have hD := hD0.self (sz := s.heap.size)
  have hl := lv_entry av (n := maxL) hlen
  rw [hlv] at hl
  rw [lg_entry_eq]
  exact body p e s m _ below meth c ⟨B.exec, B.bytes, hml, findClass_of_methodNamed B.named, atoms_spec (ws := wl) B.pre, hK, fun q h => Or.inr h⟩ hZ B.returns B.notSynchronized htb (name_of_methodNamed B.named B.method).1 s.heap [] _ hP hD va_S.rf hl
theorem zMlM.of {l : Launch} {y : MethodName} {wl wl' : List Cond} {rm : Room} {D : va_G} {tys : List (ClassId × FieldType)} {av : List Value} {ws : va_W} {cc : ByteArray} {maxL : Nat} {ret : Option FieldType} {mc ms : Nat} {S : Type} {post : Int64 → S → Prop} {out : S → va_W} (hy : plainName y.cls = true) (hw : wl = Cond.code y cc maxL ret :: wl') {lv0 : List (Nat × Value)} (hlen : (lg_sl av).length ≤ maxL) (hlv : lv_args 0 av = lv0)
    (body : ∀ (p : Program) (e : Env) (s : State) (m : MethodId) (args : Array Value) (below : List Frame) (meth : Method) (c : Code), zE p s m args c D tys (va_A ws s.heap.size) maxL cc y.cls wl → zSK (va_A ws s.heap.size) s s.heap → meth.sig.returnType = ret → meth.locks = false → meth.name = y.name →
      zW p l e rm s m args below meth c D (va_A ws s.heap.size) (MQ below (va_Ql post (fun u => zB D tys (va_A ws s.heap.size) (out u)) (va_A ws s.heap.size)) args s mc ms (va_A ws s.heap.size)) maxL ws 0 0 0 lv0 []) : zMl l y wl rm D tys av ws post out mc ms := by
  intro sz
  refine Met.ofW (cc := cc) (maxL := maxL) (ret := ret) hy hw ?_
  intro p e s m args below meth c s₁ B hml hv
  obtain ⟨rfl, hsz, hP, hK, hD0, hZ⟩ := hv
  subst hsz
  have hD := hD0.self (sz := s.heap.size)
  have hl := lv_entry av (n := maxL) hlen
  rw [hlv] at hl
  rw [lg_entry_eq]
  exact body p e s m _ below meth c ⟨B.exec, B.bytes, hml, findClass_of_methodNamed B.named, atoms_spec (ws := wl) B.pre, hK, fun q h => Or.inr h⟩ hZ B.returns B.notSynchronized (name_of_methodNamed B.named B.method).1 s.heap [] _ hP hD va_S.rf hl
theorem zMlX.of {l : Launch} {y : MethodName} {wl wl' : List Cond} {rm : Room} {D : va_G} {tys : List (ClassId × FieldType)} {av : List Value} {ws : va_W} {cc : ByteArray} {maxL : Nat} {ret : Option FieldType} {mc ms : Nat} {S : Type} {post : Int64 → S → Prop} {out : S → va_W} {SX : Type} {px : String → SX → Prop} {outx : SX → va_W} (hy : plainName y.cls = true) (hw : wl = Cond.code y cc maxL ret :: wl') {lv0 : List (Nat × Value)} (hlen : (lg_sl av).length ≤ maxL) (hlv : lv_args 0 av = lv0)
    (body : ∀ (p : Program) (e : Env) (s : State) (m : MethodId) (args : Array Value) (below : List Frame) (meth : Method) (c : Code), zE p s m args c D tys (va_A ws s.heap.size) maxL cc y.cls wl → zSK (va_A ws s.heap.size) s s.heap → meth.sig.returnType = ret → meth.locks = false → (∀ x ∈ c.exceptionTable.toList, False) → meth.name = y.name →
      zW p l e rm s m args below meth c D (va_A ws s.heap.size) (vx_MQ below (va_Ql post (fun u => zB D tys (va_A ws s.heap.size) (out u)) (va_A ws s.heap.size)) (vx_X (fun u : String × SX => px u.1 u.2) (fun E u t => E = u.1 ∧ zB D tys (va_A ws s.heap.size) (outx u.2) t) (va_A ws s.heap.size)) args s mc ms (va_A ws s.heap.size)) maxL ws 0 0 0 lv0 []) : zXl l y wl rm D tys av ws post out px outx mc ms := by
  intro sz
  refine vx_ofW (cc := cc) (maxL := maxL) (ret := ret) hy hw ?_
  intro p e s m args below meth c s₁ B hml htb hv
  obtain ⟨rfl, hsz, hP, hK, hD0, hZ⟩ := hv
  subst hsz
  have hD := hD0.self (sz := s.heap.size)
  have hl := lv_entry av (n := maxL) hlen
  rw [hlv] at hl
  rw [lg_entry_eq]
  exact body p e s m _ below meth c ⟨B.exec, B.bytes, hml, findClass_of_methodNamed B.named, atoms_spec (ws := wl) B.pre, hK, fun q h => Or.inr h⟩ hZ B.returns B.notSynchronized htb (name_of_methodNamed B.named B.method).1 s.heap [] _ hP hD va_S.rf hl
theorem zMdM.of {l : Launch} {y : MethodName} {wl wl' : List Cond} {rm : Room} {D : va_G} {tys : List (ClassId × FieldType)} {av : List Value} {ws : va_W} {cc : ByteArray} {maxL : Nat} {ret : Option FieldType} {mc ms : Nat} {S : Type} {post : UInt64 → S → Prop} {out : S → va_W} (hy : plainName y.cls = true) (hw : wl = Cond.code y cc maxL ret :: wl') {lv0 : List (Nat × Value)} (hlen : (lg_sl av).length ≤ maxL) (hlv : lv_args 0 av = lv0)
    (body : ∀ (p : Program) (e : Env) (s : State) (m : MethodId) (args : Array Value) (below : List Frame) (meth : Method) (c : Code), zE p s m args c D tys (va_A ws s.heap.size) maxL cc y.cls wl → zSK (va_A ws s.heap.size) s s.heap → meth.sig.returnType = ret → meth.locks = false → meth.name = y.name →
      zW p l e rm s m args below meth c D (va_A ws s.heap.size) (MQ below (va_Qd post (fun u => zB D tys (va_A ws s.heap.size) (out u)) (va_A ws s.heap.size)) args s mc ms (va_A ws s.heap.size)) maxL ws 0 0 0 lv0 []) : zMd l y wl rm D tys av ws post out mc ms := by
  intro sz
  refine Met.ofW (cc := cc) (maxL := maxL) (ret := ret) hy hw ?_
  intro p e s m args below meth c s₁ B hml hv
  obtain ⟨rfl, hsz, hP, hK, hD0, hZ⟩ := hv
  subst hsz
  have hD := hD0.self (sz := s.heap.size)
  have hl := lv_entry av (n := maxL) hlen
  rw [hlv] at hl
  rw [lg_entry_eq]
  exact body p e s m _ below meth c ⟨B.exec, B.bytes, hml, findClass_of_methodNamed B.named, atoms_spec (ws := wl) B.pre, hK, fun q h => Or.inr h⟩ hZ B.returns B.notSynchronized (name_of_methodNamed B.named B.method).1 s.heap [] _ hP hD va_S.rf hl
theorem zMdX.of {l : Launch} {y : MethodName} {wl wl' : List Cond} {rm : Room} {D : va_G} {tys : List (ClassId × FieldType)} {av : List Value} {ws : va_W} {cc : ByteArray} {maxL : Nat} {ret : Option FieldType} {mc ms : Nat} {S : Type} {post : UInt64 → S → Prop} {out : S → va_W} {SX : Type} {px : String → SX → Prop} {outx : SX → va_W} (hy : plainName y.cls = true) (hw : wl = Cond.code y cc maxL ret :: wl') {lv0 : List (Nat × Value)} (hlen : (lg_sl av).length ≤ maxL) (hlv : lv_args 0 av = lv0)
    (body : ∀ (p : Program) (e : Env) (s : State) (m : MethodId) (args : Array Value) (below : List Frame) (meth : Method) (c : Code), zE p s m args c D tys (va_A ws s.heap.size) maxL cc y.cls wl → zSK (va_A ws s.heap.size) s s.heap → meth.sig.returnType = ret → meth.locks = false → (∀ x ∈ c.exceptionTable.toList, False) → meth.name = y.name →
      zW p l e rm s m args below meth c D (va_A ws s.heap.size) (vx_MQ below (va_Qd post (fun u => zB D tys (va_A ws s.heap.size) (out u)) (va_A ws s.heap.size)) (vx_X (fun u : String × SX => px u.1 u.2) (fun E u t => E = u.1 ∧ zB D tys (va_A ws s.heap.size) (outx u.2) t) (va_A ws s.heap.size)) args s mc ms (va_A ws s.heap.size)) maxL ws 0 0 0 lv0 []) : zXd l y wl rm D tys av ws post out px outx mc ms := by
  intro sz
  refine vx_ofW (cc := cc) (maxL := maxL) (ret := ret) hy hw ?_
  intro p e s m args below meth c s₁ B hml htb hv
  obtain ⟨rfl, hsz, hP, hK, hD0, hZ⟩ := hv
  subst hsz
  have hD := hD0.self (sz := s.heap.size)
  have hl := lv_entry av (n := maxL) hlen
  rw [hlv] at hl
  rw [lg_entry_eq]
  exact body p e s m _ below meth c ⟨B.exec, B.bytes, hml, findClass_of_methodNamed B.named, atoms_spec (ws := wl) B.pre, hK, fun q h => Or.inr h⟩ hZ B.returns B.notSynchronized htb (name_of_methodNamed B.named B.method).1 s.heap [] _ hP hD va_S.rf hl
theorem zMqM.of {l : Launch} {y : MethodName} {wl wl' : List Cond} {rm : Room} {D : va_G} {tys : List (ClassId × FieldType)} {av : List Value} {ws : va_W} {cc : ByteArray} {maxL : Nat} {ret : Option FieldType} {mc ms : Nat} {S : Type} {post : Option Nat → S → Prop} {out : S → va_W} (hy : plainName y.cls = true) (hw : wl = Cond.code y cc maxL ret :: wl') {lv0 : List (Nat × Value)} (hlen : (lg_sl av).length ≤ maxL) (hlv : lv_args 0 av = lv0)
    (body : ∀ (p : Program) (e : Env) (s : State) (m : MethodId) (args : Array Value) (below : List Frame) (meth : Method) (c : Code), zE p s m args c D tys (va_A ws s.heap.size) maxL cc y.cls wl → zSK (va_A ws s.heap.size) s s.heap → meth.sig.returnType = ret → meth.locks = false → meth.name = y.name →
      zW p l e rm s m args below meth c D (va_A ws s.heap.size) (MQ below (va_Qq post (fun u => zB D tys (va_A ws s.heap.size) (out u)) (va_A ws s.heap.size)) args s mc ms (va_A ws s.heap.size)) maxL ws 0 0 0 lv0 []) : zMq l y wl rm D tys av ws post out mc ms := by
  intro sz
  refine Met.ofW (cc := cc) (maxL := maxL) (ret := ret) hy hw ?_
  intro p e s m args below meth c s₁ B hml hv
  obtain ⟨rfl, hsz, hP, hK, hD0, hZ⟩ := hv
  subst hsz
  have hD := hD0.self (sz := s.heap.size)
  have hl := lv_entry av (n := maxL) hlen
  rw [hlv] at hl
  rw [lg_entry_eq]
  exact body p e s m _ below meth c ⟨B.exec, B.bytes, hml, findClass_of_methodNamed B.named, atoms_spec (ws := wl) B.pre, hK, fun q h => Or.inr h⟩ hZ B.returns B.notSynchronized (name_of_methodNamed B.named B.method).1 s.heap [] _ hP hD va_S.rf hl
theorem zMqX.of {l : Launch} {y : MethodName} {wl wl' : List Cond} {rm : Room} {D : va_G} {tys : List (ClassId × FieldType)} {av : List Value} {ws : va_W} {cc : ByteArray} {maxL : Nat} {ret : Option FieldType} {mc ms : Nat} {S : Type} {post : Option Nat → S → Prop} {out : S → va_W} {SX : Type} {px : String → SX → Prop} {outx : SX → va_W} (hy : plainName y.cls = true) (hw : wl = Cond.code y cc maxL ret :: wl') {lv0 : List (Nat × Value)} (hlen : (lg_sl av).length ≤ maxL) (hlv : lv_args 0 av = lv0)
    (body : ∀ (p : Program) (e : Env) (s : State) (m : MethodId) (args : Array Value) (below : List Frame) (meth : Method) (c : Code), zE p s m args c D tys (va_A ws s.heap.size) maxL cc y.cls wl → zSK (va_A ws s.heap.size) s s.heap → meth.sig.returnType = ret → meth.locks = false → (∀ x ∈ c.exceptionTable.toList, False) → meth.name = y.name →
      zW p l e rm s m args below meth c D (va_A ws s.heap.size) (vx_MQ below (va_Qq post (fun u => zB D tys (va_A ws s.heap.size) (out u)) (va_A ws s.heap.size)) (vx_X (fun u : String × SX => px u.1 u.2) (fun E u t => E = u.1 ∧ zB D tys (va_A ws s.heap.size) (outx u.2) t) (va_A ws s.heap.size)) args s mc ms (va_A ws s.heap.size)) maxL ws 0 0 0 lv0 []) : zXq l y wl rm D tys av ws post out px outx mc ms := by
  intro sz
  refine vx_ofW (cc := cc) (maxL := maxL) (ret := ret) hy hw ?_
  intro p e s m args below meth c s₁ B hml htb hv
  obtain ⟨rfl, hsz, hP, hK, hD0, hZ⟩ := hv
  subst hsz
  have hD := hD0.self (sz := s.heap.size)
  have hl := lv_entry av (n := maxL) hlen
  rw [hlv] at hl
  rw [lg_entry_eq]
  exact body p e s m _ below meth c ⟨B.exec, B.bytes, hml, findClass_of_methodNamed B.named, atoms_spec (ws := wl) B.pre, hK, fun q h => Or.inr h⟩ hZ B.returns B.notSynchronized htb (name_of_methodNamed B.named B.method).1 s.heap [] _ hP hD va_S.rf hl
theorem zMvM.of {l : Launch} {y : MethodName} {wl wl' : List Cond} {rm : Room} {D : va_G} {tys : List (ClassId × FieldType)} {av : List Value} {ws : va_W} {cc : ByteArray} {maxL : Nat} {ret : Option FieldType} {mc ms : Nat} {S : Type} {post : S → Prop} {out : S → va_W} (hy : plainName y.cls = true) (hw : wl = Cond.code y cc maxL ret :: wl') {lv0 : List (Nat × Value)} (hlen : (lg_sl av).length ≤ maxL) (hlv : lv_args 0 av = lv0)
    (body : ∀ (p : Program) (e : Env) (s : State) (m : MethodId) (args : Array Value) (below : List Frame) (meth : Method) (c : Code), zE p s m args c D tys (va_A ws s.heap.size) maxL cc y.cls wl → zSK (va_A ws s.heap.size) s s.heap → meth.sig.returnType = ret → meth.locks = false → meth.name = y.name →
      zW p l e rm s m args below meth c D (va_A ws s.heap.size) (MQ below (va_Qv post (fun u => zB D tys (va_A ws s.heap.size) (out u)) (va_A ws s.heap.size)) args s mc ms (va_A ws s.heap.size)) maxL ws 0 0 0 lv0 []) : zMv l y wl rm D tys av ws post out mc ms := by
  intro sz
  refine Met.ofW (cc := cc) (maxL := maxL) (ret := ret) hy hw ?_
  intro p e s m args below meth c s₁ B hml hv
  obtain ⟨rfl, hsz, hP, hK, hD0, hZ⟩ := hv
  subst hsz
  have hD := hD0.self (sz := s.heap.size)
  have hl := lv_entry av (n := maxL) hlen
  rw [hlv] at hl
  rw [lg_entry_eq]
  exact body p e s m _ below meth c ⟨B.exec, B.bytes, hml, findClass_of_methodNamed B.named, atoms_spec (ws := wl) B.pre, hK, fun q h => Or.inr h⟩ hZ B.returns B.notSynchronized (name_of_methodNamed B.named B.method).1 s.heap [] _ hP hD va_S.rf hl
theorem zMvX.of {l : Launch} {y : MethodName} {wl wl' : List Cond} {rm : Room} {D : va_G} {tys : List (ClassId × FieldType)} {av : List Value} {ws : va_W} {cc : ByteArray} {maxL : Nat} {ret : Option FieldType} {mc ms : Nat} {S : Type} {post : S → Prop} {out : S → va_W} {SX : Type} {px : String → SX → Prop} {outx : SX → va_W} (hy : plainName y.cls = true) (hw : wl = Cond.code y cc maxL ret :: wl') {lv0 : List (Nat × Value)} (hlen : (lg_sl av).length ≤ maxL) (hlv : lv_args 0 av = lv0)
    (body : ∀ (p : Program) (e : Env) (s : State) (m : MethodId) (args : Array Value) (below : List Frame) (meth : Method) (c : Code), zE p s m args c D tys (va_A ws s.heap.size) maxL cc y.cls wl → zSK (va_A ws s.heap.size) s s.heap → meth.sig.returnType = ret → meth.locks = false → (∀ x ∈ c.exceptionTable.toList, False) → meth.name = y.name →
      zW p l e rm s m args below meth c D (va_A ws s.heap.size) (vx_MQ below (va_Qv post (fun u => zB D tys (va_A ws s.heap.size) (out u)) (va_A ws s.heap.size)) (vx_X (fun u : String × SX => px u.1 u.2) (fun E u t => E = u.1 ∧ zB D tys (va_A ws s.heap.size) (outx u.2) t) (va_A ws s.heap.size)) args s mc ms (va_A ws s.heap.size)) maxL ws 0 0 0 lv0 []) : zXv l y wl rm D tys av ws post out px outx mc ms := by
  intro sz
  refine vx_ofW (cc := cc) (maxL := maxL) (ret := ret) hy hw ?_
  intro p e s m args below meth c s₁ B hml htb hv
  obtain ⟨rfl, hsz, hP, hK, hD0, hZ⟩ := hv
  subst hsz
  have hD := hD0.self (sz := s.heap.size)
  have hl := lv_entry av (n := maxL) hlen
  rw [hlv] at hl
  rw [lg_entry_eq]
  exact body p e s m _ below meth c ⟨B.exec, B.bytes, hml, findClass_of_methodNamed B.named, atoms_spec (ws := wl) B.pre, hK, fun q h => Or.inr h⟩ hZ B.returns B.notSynchronized htb (name_of_methodNamed B.named B.method).1 s.heap [] _ hP hD va_S.rf hl
theorem zMiF.of {l : Launch} {y : MethodName} {wl wl' : List Cond} {rm : Room} {D : va_G} {tys : List (ClassId × FieldType)} {av : List Value} {ws : va_W} {cc : ByteArray} {maxL : Nat} {ret : Option FieldType} {mc ms : Nat} {S : Type} {post : Int32 → S → Prop} {out : S → va_W} (hy : plainFor y = true) (hw : wl = Cond.code y cc maxL ret :: wl') {lv0 : List (Nat × Value)} (hlen : (lg_sl av).length ≤ maxL) (hlv : lv_args 0 av = lv0)
    (body : ∀ (p : Program) (e : Env) (s : State) (m : MethodId) (args : Array Value) (below : List Frame) (meth : Method) (c : Code), zE p s m args c D tys (va_A ws s.heap.size) maxL cc y.cls wl → zSK (va_A ws s.heap.size) s s.heap → meth.sig.returnType = ret → meth.locks = false → meth.name = y.name →
      zW p l e rm s m args below meth c D (va_A ws s.heap.size) (MQ below (va_Qi post (fun u => zB D tys (va_A ws s.heap.size) (out u)) (va_A ws s.heap.size)) args s mc ms (va_A ws s.heap.size)) maxL ws 0 0 0 lv0 []) : zMi l y wl rm D tys av ws post out mc ms := by
  intro sz
  refine zMetF (cc := cc) (maxL := maxL) (ret := ret) hy hw ?_
  intro p e s m args below meth c s₁ B hml hv
  obtain ⟨rfl, hsz, hP, hK, hD0, hZ⟩ := hv
  subst hsz
  have hD := hD0.self (sz := s.heap.size)
  have hl := lv_entry av (n := maxL) hlen
  rw [hlv] at hl
  rw [lg_entry_eq]
  exact body p e s m _ below meth c ⟨B.exec, B.bytes, hml, findClass_of_methodNamed B.named, atoms_spec (ws := wl) B.pre, hK, fun q h => Or.inr h⟩ hZ B.returns B.notSynchronized (name_of_methodNamed B.named B.method).1 s.heap [] _ hP hD va_S.rf hl
variable {p : Program} {l : Launch} {e : Env} {R : Room} {s : State} {m : MethodId} {args : Array Value} {below : List Frame} {meth : Method} {c : Code} {D : va_G} {tys : List (ClassId × FieldType)} {A : Nat → Prop} {Q : State → Prop} {nL : Nat} {ws : va_W} {cells slots pc : Nat} {lv : List (Nat × Value)} {rest : List Value} {cc : ByteArray} {own : String} {Ts : List Cond}
theorem z_iretM (E : zE p s m args c D tys A nL cc own Ts) (hr : meth.sig.returnType = some .int) (hlocks : meth.locks = false) {S : Type} {post : Int32 → S → Prop} {out : S → va_W} {mc ms : Nat} {v : Int32} (u : S) (hw : ws = out u) (hp : post v u) (hc : cells ≤ mc) (hs : slots ≤ ms) (d : decode cc pc = .ok (.ireturn, 1)) : zW p l e R s m args below meth c D A (MQ below (va_Qi post (fun u => zB D tys A (out u)) A) args s mc ms A) nL ws cells slots pc lv [.int v] := fun H locs ls hP hD hS hl => W.widen hc hs (W.iret (v := v) E.hx E.hb hr (fun t ht hW => ⟨⟨v, u, rfl, hp, (by show zB D tys A (out u) t; rw [← hw]; exact ⟨by rw [ht]; exact hP, E.hK.moved hW.alike, hD⟩)⟩, hS.F ht⟩) hS.2.2 d hlocks)
theorem z_izretM (E : zE p s m args c D tys A nL cc own Ts) (hr : meth.sig.returnType = some .boolean) (hlocks : meth.locks = false) {S : Type} {post : Int32 → S → Prop} {out : S → va_W} {mc ms : Nat} {v : Int32} (u : S) (hn : narrow .boolean (.int v) = .int v) (hw : ws = out u) (hp : post v u) (hc : cells ≤ mc) (hs : slots ≤ ms) (d : decode cc pc = .ok (.ireturn, 1)) : zW p l e R s m args below meth c D A (MQ below (va_Qi post (fun u => zB D tys A (out u)) A) args s mc ms A) nL ws cells slots pc lv [.int v] := fun H locs ls hP hD hS hl => W.widen hc hs (W.zret (v := v) (ty := .boolean) E.hx E.hb hr hn (fun t ht hW => ⟨⟨v, u, rfl, hp, (by show zB D tys A (out u) t; rw [← hw]; exact ⟨by rw [ht]; exact hP, E.hK.moved hW.alike, hD⟩)⟩, hS.F ht⟩) hS.2.2 d hlocks)
theorem z_iretX (E : zE p s m args c D tys A nL cc own Ts) (hr : meth.sig.returnType = some .int) (hlocks : meth.locks = false) {S : Type} {post : Int32 → S → Prop} {out : S → va_W} {XC : String → State → State → Prop} {mc ms : Nat} {v : Int32} (u : S) (hw : ws = out u) (hp : post v u) (hc : cells ≤ mc) (hs : slots ≤ ms) (d : decode cc pc = .ok (.ireturn, 1)) : zW p l e R s m args below meth c D A (vx_MQ below (va_Qi post (fun u => zB D tys A (out u)) A) XC args s mc ms A) nL ws cells slots pc lv [.int v] := fun H locs ls hP hD hS hl => vx_ret (W.widen hc hs (W.iret (v := v) E.hx E.hb hr (fun t ht hW => ⟨⟨v, u, rfl, hp, (by show zB D tys A (out u) t; rw [← hw]; exact ⟨by rw [ht]; exact hP, E.hK.moved hW.alike, hD⟩)⟩, hS.F ht⟩) hS.2.2 d hlocks))
theorem z_izretX (E : zE p s m args c D tys A nL cc own Ts) (hr : meth.sig.returnType = some .boolean) (hlocks : meth.locks = false) {S : Type} {post : Int32 → S → Prop} {out : S → va_W} {XC : String → State → State → Prop} {mc ms : Nat} {v : Int32} (u : S) (hn : narrow .boolean (.int v) = .int v) (hw : ws = out u) (hp : post v u) (hc : cells ≤ mc) (hs : slots ≤ ms) (d : decode cc pc = .ok (.ireturn, 1)) : zW p l e R s m args below meth c D A (vx_MQ below (va_Qi post (fun u => zB D tys A (out u)) A) XC args s mc ms A) nL ws cells slots pc lv [.int v] := fun H locs ls hP hD hS hl => vx_ret (W.widen hc hs (W.zret (v := v) (ty := .boolean) E.hx E.hb hr hn (fun t ht hW => ⟨⟨v, u, rfl, hp, (by show zB D tys A (out u) t; rw [← hw]; exact ⟨by rw [ht]; exact hP, E.hK.moved hW.alike, hD⟩)⟩, hS.F ht⟩) hS.2.2 d hlocks))
theorem z_lretM (E : zE p s m args c D tys A nL cc own Ts) (hr : meth.sig.returnType = some .long) (hlocks : meth.locks = false) {S : Type} {post : Int64 → S → Prop} {out : S → va_W} {mc ms : Nat} {v : Int64} (u : S) (hw : ws = out u) (hp : post v u) (hc : cells ≤ mc) (hs : slots ≤ ms) (d : decode cc pc = .ok (.lreturn, 1)) : zW p l e R s m args below meth c D A (MQ below (va_Ql post (fun u => zB D tys A (out u)) A) args s mc ms A) nL ws cells slots pc lv [.long v] := fun H locs ls hP hD hS hl => W.widen hc hs (W.lret (v := v) E.hx E.hb hr (fun t ht hW => ⟨⟨v, u, rfl, hp, (by show zB D tys A (out u) t; rw [← hw]; exact ⟨by rw [ht]; exact hP, E.hK.moved hW.alike, hD⟩)⟩, hS.F ht⟩) hS.2.2 d hlocks)
theorem z_lretX (E : zE p s m args c D tys A nL cc own Ts) (hr : meth.sig.returnType = some .long) (hlocks : meth.locks = false) {S : Type} {post : Int64 → S → Prop} {out : S → va_W} {XC : String → State → State → Prop} {mc ms : Nat} {v : Int64} (u : S) (hw : ws = out u) (hp : post v u) (hc : cells ≤ mc) (hs : slots ≤ ms) (d : decode cc pc = .ok (.lreturn, 1)) : zW p l e R s m args below meth c D A (vx_MQ below (va_Ql post (fun u => zB D tys A (out u)) A) XC args s mc ms A) nL ws cells slots pc lv [.long v] := fun H locs ls hP hD hS hl => vx_ret (W.widen hc hs (W.lret (v := v) E.hx E.hb hr (fun t ht hW => ⟨⟨v, u, rfl, hp, (by show zB D tys A (out u) t; rw [← hw]; exact ⟨by rw [ht]; exact hP, E.hK.moved hW.alike, hD⟩)⟩, hS.F ht⟩) hS.2.2 d hlocks))
theorem z_dretM (E : zE p s m args c D tys A nL cc own Ts) (hr : meth.sig.returnType = some .double) (hlocks : meth.locks = false) {S : Type} {post : UInt64 → S → Prop} {out : S → va_W} {mc ms : Nat} {v : UInt64} (u : S) (hw : ws = out u) (hp : post v u) (hc : cells ≤ mc) (hs : slots ≤ ms) (d : decode cc pc = .ok (.dreturn, 1)) : zW p l e R s m args below meth c D A (MQ below (va_Qd post (fun u => zB D tys A (out u)) A) args s mc ms A) nL ws cells slots pc lv [.double v] := fun H locs ls hP hD hS hl => W.widen hc hs (W.dret (v := v) E.hx E.hb hr (fun t ht hW => ⟨⟨v, u, rfl, hp, (by show zB D tys A (out u) t; rw [← hw]; exact ⟨by rw [ht]; exact hP, E.hK.moved hW.alike, hD⟩)⟩, hS.F ht⟩) hS.2.2 d hlocks)
theorem z_dretX (E : zE p s m args c D tys A nL cc own Ts) (hr : meth.sig.returnType = some .double) (hlocks : meth.locks = false) {S : Type} {post : UInt64 → S → Prop} {out : S → va_W} {XC : String → State → State → Prop} {mc ms : Nat} {v : UInt64} (u : S) (hw : ws = out u) (hp : post v u) (hc : cells ≤ mc) (hs : slots ≤ ms) (d : decode cc pc = .ok (.dreturn, 1)) : zW p l e R s m args below meth c D A (vx_MQ below (va_Qd post (fun u => zB D tys A (out u)) A) XC args s mc ms A) nL ws cells slots pc lv [.double v] := fun H locs ls hP hD hS hl => vx_ret (W.widen hc hs (W.dret (v := v) E.hx E.hb hr (fun t ht hW => ⟨⟨v, u, rfl, hp, (by show zB D tys A (out u) t; rw [← hw]; exact ⟨by rw [ht]; exact hP, E.hK.moved hW.alike, hD⟩)⟩, hS.F ht⟩) hS.2.2 d hlocks))
theorem z_qretM (E : zE p s m args c D tys A nL cc own Ts) {cn : String} (hr : meth.sig.returnType = some (.object cn)) (hlocks : meth.locks = false) {S : Type} {post : Option Nat → S → Prop} {out : S → va_W} {mc ms : Nat} {v : Nat} (u : S) (hw : ws = out u) (hp : post (some v) u) (hc : cells ≤ mc) (hs : slots ≤ ms) (d : decode cc pc = .ok (.areturn, 1)) : zW p l e R s m args below meth c D A (MQ below (va_Qq post (fun u => zB D tys A (out u)) A) args s mc ms A) nL ws cells slots pc lv [.ref v] := fun H locs ls hP hD hS hl => W.widen hc hs (W.aret (v := .ref v) E.hx E.hb hr (Or.inl ⟨_, rfl⟩) (Or.inr ⟨_, rfl⟩) (fun t ht hW => ⟨⟨some v, u, rfl, hp, (by show zB D tys A (out u) t; rw [← hw]; exact ⟨by rw [ht]; exact hP, E.hK.moved hW.alike, hD⟩)⟩, hS.F ht⟩) hS.2.2 d hlocks)
theorem z_qretX (E : zE p s m args c D tys A nL cc own Ts) {cn : String} (hr : meth.sig.returnType = some (.object cn)) (hlocks : meth.locks = false) {S : Type} {post : Option Nat → S → Prop} {out : S → va_W} {XC : String → State → State → Prop} {mc ms : Nat} {v : Nat} (u : S) (hw : ws = out u) (hp : post (some v) u) (hc : cells ≤ mc) (hs : slots ≤ ms) (d : decode cc pc = .ok (.areturn, 1)) : zW p l e R s m args below meth c D A (vx_MQ below (va_Qq post (fun u => zB D tys A (out u)) A) XC args s mc ms A) nL ws cells slots pc lv [.ref v] := fun H locs ls hP hD hS hl => vx_ret (W.widen hc hs (W.aret (v := .ref v) E.hx E.hb hr (Or.inl ⟨_, rfl⟩) (Or.inr ⟨_, rfl⟩) (fun t ht hW => ⟨⟨some v, u, rfl, hp, (by show zB D tys A (out u) t; rw [← hw]; exact ⟨by rw [ht]; exact hP, E.hK.moved hW.alike, hD⟩)⟩, hS.F ht⟩) hS.2.2 d hlocks))
theorem z_vretM (E : zE p s m args c D tys A nL cc own Ts) (hr : meth.sig.returnType = none) (hlocks : meth.locks = false) {S : Type} {post : S → Prop} {out : S → va_W} {mc ms : Nat} (u : S) (hw : ws = out u) (hp : post u) (hc : cells ≤ mc) (hs : slots ≤ ms) (d : decode cc pc = .ok (.return_, 1)) : zW p l e R s m args below meth c D A (MQ below (va_Qv post (fun u => zB D tys A (out u)) A) args s mc ms A) nL ws cells slots pc lv [] := fun H locs ls hP hD hS hl => W.widen hc hs (W.vret E.hx E.hb hr (fun t ht hW => ⟨⟨u, rfl, hp, (by show zB D tys A (out u) t; rw [← hw]; exact ⟨by rw [ht]; exact hP, E.hK.moved hW.alike, hD⟩)⟩, hS.F ht⟩) hS.2.2 d hlocks)
theorem z_vretX (E : zE p s m args c D tys A nL cc own Ts) (hr : meth.sig.returnType = none) (hlocks : meth.locks = false) {S : Type} {post : S → Prop} {out : S → va_W} {XC : String → State → State → Prop} {mc ms : Nat} (u : S) (hw : ws = out u) (hp : post u) (hc : cells ≤ mc) (hs : slots ≤ ms) (d : decode cc pc = .ok (.return_, 1)) : zW p l e R s m args below meth c D A (vx_MQ below (va_Qv post (fun u => zB D tys A (out u)) A) XC args s mc ms A) nL ws cells slots pc lv [] := fun H locs ls hP hD hS hl => vx_ret (W.widen hc hs (W.vret E.hx E.hb hr (fun t ht hW => ⟨⟨u, rfl, hp, (by show zB D tys A (out u) t; rw [← hw]; exact ⟨by rw [ht]; exact hP, E.hK.moved hW.alike, hD⟩)⟩, hS.F ht⟩) hS.2.2 d hlocks))
theorem z_callVi (E : zE p s m args c D tys A nL cc own Ts) (hZ : zSK A s s.heap) {y : MethodName} {wl wl' : List Cond} {rm : Room} {bytes : ByteArray} {maxL mc ms n index : Nat} {ret : Option FieldType} {C : String} {b : Nat} {As st : List Value} {S : Type} {post : Int32 → S → Prop} {out : S → va_W} (hM : zMi l y wl rm D tys (.ref b :: As) ws post out mc ms) (hg : GoodIn Ts (wsV own index C y wl)) (hw : wl = Cond.code y bytes maxL ret :: wl') (hmc : rm.cells = mc) (hms : rm.slots = ms) (hd : y.cls = C ∧ y.cls ≠ "java/lang/invoke/MethodHandle" ∧ y.cls ≠ "java/lang/invoke/VarHandle" ∧ (parseMethodDescriptor y.desc).map (fun d => d.parameters.length) = some n) (hn : As.length = n) (hR : rm.frames + 1 ≤ R.frames ∧ 8 + (maxL + 11) + rm.locals ≤ R.locals) {T0 : u_T} {N ci : Nat} {fs : List Value} (hci : vwCl[ci]? = some (C, T0, N)) (q0 : Nat) (hrv : ws[q0]? = some (b, .inr (ci, fs))) (hstk : st = As.reverse ++ .ref b :: rest) (hcat : (rest.map fun v => v.category).sum ≤ 8) (hf : cells + mc ≤ R.cells ∧ slots + ms ≤ R.slots) (d : decode cc pc = .ok (.invokevirtual index, 3)) (k : ∀ (r : Int32) (u : S), post r u → zW p l e R s m args below meth c D A Q nL (out u) (cells + mc) (slots + ms) (pc + 3) lv (.int r :: rest)) : zW p l e R s m args below meth c D A Q nL ws cells slots pc lv st := fun H locs ls hP hD hS hl => va_calli (va_runV (As := As) (rest := rest) ⟨E.hx, E.hb, E.hml, E.hown, E.hts⟩ (hM H.size) (cwV n E.hts hg hw hmc hms hd hR) ⟨zPc.blind, va_recv E.hK hP hci hrv, zPc.start hP hD hS E.hA E.hK hZ⟩ rfl hn hl.1 hstk (lv_room hcat) d hf) hS (fun q _ h => zA.in hD hS E.hA q h) (fun q h => zA.in hD hS E.hA q h) (fun r u t H1 locs1 ht hvm hp hB hz1 hk1 hS1 => k r u hp H1 locs1 ls (by rw [← ht]; exact hB.1) (hB.2.2.weaken (fun _ q _ h => zA.in hD hS E.hA q.1 h)) hS1 hl)
theorem z_callViX (E : zE p s m args c D tys A nL cc own Ts) (hZ : zSK A s s.heap) {y : MethodName} {wl wl' : List Cond} {rm : Room} {bytes : ByteArray} {maxL mc ms n index : Nat} {ret : Option FieldType} {C : String} {b : Nat} {As st : List Value} {S : Type} {post : Int32 → S → Prop} {out : S → va_W} {SX : Type} {px : String → SX → Prop} {outx : SX → va_W} (hM : zXi l y wl rm D tys (.ref b :: As) ws post out px outx mc ms) (hg : GoodIn Ts (wsV own index C y wl)) (hw : wl = Cond.code y bytes maxL ret :: wl') (hmc : rm.cells = mc) (hms : rm.slots = ms) (hd : y.cls = C ∧ y.cls ≠ "java/lang/invoke/MethodHandle" ∧ y.cls ≠ "java/lang/invoke/VarHandle" ∧ (parseMethodDescriptor y.desc).map (fun d => d.parameters.length) = some n) (hn : As.length = n) (hR : rm.frames + 1 ≤ R.frames ∧ 8 + (maxL + 11) + rm.locals ≤ R.locals) {T0 : u_T} {N ci : Nat} {fs : List Value} (hci : vwCl[ci]? = some (C, T0, N)) (q0 : Nat) (hrv : ws[q0]? = some (b, .inr (ci, fs))) (hstk : st = As.reverse ++ .ref b :: rest) (hcat : (rest.map fun v => v.category).sum ≤ 8) (hf : cells + mc ≤ R.cells ∧ slots + ms ≤ R.slots) (d : decode cc pc = .ok (.invokevirtual index, 3)) (kx : ∀ (E0 : String) (u : SX) (q9 : Nat) (ce : Cell) (H : Heap) (locs : List Loc) (ls : Array Slot), px E0 u → va_P D vwCl (outx u) H → va_D A (outx u) → va_S A s.heap H locs → lv_has ls nL lv → H[q9]? = some ce → ce.vm = .none → s.vm.findClass E0 = some ce.cls → vx_W p l e R s m args below meth c H locs (cells + mc) (slots + ms) Q (F0 m pc ls rest) q9) (k : ∀ (r : Int32) (u : S), post r u → zW p l e R s m args below meth c D A Q nL (out u) (cells + mc) (slots + ms) (pc + 3) lv (.int r :: rest)) : zW p l e R s m args below meth c D A Q nL ws cells slots pc lv st := fun H locs ls hP hD hS hl => vx_calli (vx_runV (As := As) (rest := rest) ⟨E.hx, E.hb, E.hml, E.hown, E.hts⟩ (hM H.size) (cwV n E.hts hg hw hmc hms hd hR) ⟨zPc.blind, va_recv E.hK hP hci hrv, zPc.start hP hD hS E.hA E.hK hZ⟩ rfl hn hl.1 hstk (lv_room hcat) d hf) hS (fun q _ h => zA.in hD hS E.hA q h) (fun q h => zA.in hD hS E.hA q h) (fun q _ h => zA.in hD hS E.hA q h) (fun E0 ce q9 u t H1 locs1 ht hvm hp hB hz1 hk1 hS1 hce hcv hcl => kx E0 u.2 q9 ce H1 locs1 ls (by rw [hB.1]; exact hp) (by rw [← ht]; exact hB.2.1) (hB.2.2.2.weaken (fun _ q _ h => zA.in hD hS E.hA q.1 h)) hS1 hl hce hcv hcl) (fun r u t H1 locs1 ht hvm hp hB hz1 hk1 hS1 => k r u hp H1 locs1 ls (by rw [← ht]; exact hB.1) (hB.2.2.weaken (fun _ q _ h => zA.in hD hS E.hA q.1 h)) hS1 hl)
theorem z_callViN (E : zE p s m args c D tys A nL cc own Ts) (hZ : zSK A s s.heap) {y : MethodName} {wl wl' : List Cond} {rm : Room} {bytes : ByteArray} {maxL mc ms n index : Nat} {ret : Option FieldType} {C : String} {b : Nat} {As st : List Value} {S : Type} {post : Int32 → S → Prop} {out : S → va_W} {SX : Type} {px : String → SX → Prop} {outx : SX → va_W} (hM : zXi l y wl rm D tys (.ref b :: As) ws post out px outx mc ms) (hg : GoodIn Ts (wsV own index C y wl)) (hw : wl = Cond.code y bytes maxL ret :: wl') (hmc : rm.cells = mc) (hms : rm.slots = ms) (hd : y.cls = C ∧ y.cls ≠ "java/lang/invoke/MethodHandle" ∧ y.cls ≠ "java/lang/invoke/VarHandle" ∧ (parseMethodDescriptor y.desc).map (fun d => d.parameters.length) = some n) (hn : As.length = n) (hR : rm.frames + 1 ≤ R.frames ∧ 8 + (maxL + 11) + rm.locals ≤ R.locals) {T0 : u_T} {N ci : Nat} {fs : List Value} (hci : vwCl[ci]? = some (C, T0, N)) (q0 : Nat) (hrv : ws[q0]? = some (b, .inr (ci, fs))) (hstk : st = As.reverse ++ .ref b :: rest) (hcat : (rest.map fun v => v.category).sum ≤ 8) (hf : cells + mc ≤ R.cells ∧ slots + ms ≤ R.slots) (d : decode cc pc = .ok (.invokevirtual index, 3)) (hno : ∀ (E0 : String) (u : SX), ¬ px E0 u) (k : ∀ (r : Int32) (u : S), post r u → zW p l e R s m args below meth c D A Q nL (out u) (cells + mc) (slots + ms) (pc + 3) lv (.int r :: rest)) : zW p l e R s m args below meth c D A Q nL ws cells slots pc lv st := z_callViX E hZ hM hg hw hmc hms hd hn hR hci q0 hrv hstk hcat hf d (fun E0 u _ _ _ _ _ hp => absurd hp (hno E0 u)) k
theorem z_callSi (E : zE p s m args c D tys A nL cc own Ts) (hZ : zSK A s s.heap) {y : MethodName} {wl wl' : List Cond} {rm : Room} {bytes : ByteArray} {maxL mc ms n index : Nat} {ret : Option FieldType} {As st : List Value} {S : Type} {post : Int32 → S → Prop} {out : S → va_W} (hM : zMi l y wl rm D tys (As) ws post out mc ms) (hg : GoodIn Ts (va_wsS own index y wl)) (hw : wl = Cond.code y bytes maxL ret :: wl') (hmc : rm.cells = mc) (hms : rm.slots = ms) (hd : y.cls ≠ "java/lang/invoke/MethodHandle" ∧ y.cls ≠ "java/lang/invoke/VarHandle" ∧ (parseMethodDescriptor y.desc).map (fun d => d.parameters.length) = some n) (hn : As.length = n) (hR : rm.frames + 1 ≤ R.frames ∧ 8 + (maxL + 11) + rm.locals ≤ R.locals)  (hstk : st = As.reverse ++ rest) (hcat : (rest.map fun v => v.category).sum ≤ 8) (hf : cells + mc ≤ R.cells ∧ slots + ms ≤ R.slots) (d : decode cc pc = .ok (.invokestatic index, 3)) (k : ∀ (r : Int32) (u : S), post r u → zW p l e R s m args below meth c D A Q nL (out u) (cells + mc) (slots + ms) (pc + 3) lv (.int r :: rest)) : zW p l e R s m args below meth c D A Q nL ws cells slots pc lv st := fun H locs ls hP hD hS hl => va_calli (va_runS (As := As) (rest := rest) ⟨E.hx, E.hb, E.hml, E.hown, E.hts⟩ (hM H.size) (va_cwS n E.hts hg hw hmc hms hd hR) ⟨zPc.blind, zPc.start hP hD hS E.hA E.hK hZ⟩ rfl hn hl.1 hstk (lv_room hcat) d hf) hS (fun q _ h => zA.in hD hS E.hA q h) (fun q h => zA.in hD hS E.hA q h) (fun r u t H1 locs1 ht hvm hp hB hz1 hk1 hS1 => k r u hp H1 locs1 ls (by rw [← ht]; exact hB.1) (hB.2.2.weaken (fun _ q _ h => zA.in hD hS E.hA q.1 h)) hS1 hl)
theorem z_callSiX (E : zE p s m args c D tys A nL cc own Ts) (hZ : zSK A s s.heap) {y : MethodName} {wl wl' : List Cond} {rm : Room} {bytes : ByteArray} {maxL mc ms n index : Nat} {ret : Option FieldType} {As st : List Value} {S : Type} {post : Int32 → S → Prop} {out : S → va_W} {SX : Type} {px : String → SX → Prop} {outx : SX → va_W} (hM : zXi l y wl rm D tys (As) ws post out px outx mc ms) (hg : GoodIn Ts (va_wsS own index y wl)) (hw : wl = Cond.code y bytes maxL ret :: wl') (hmc : rm.cells = mc) (hms : rm.slots = ms) (hd : y.cls ≠ "java/lang/invoke/MethodHandle" ∧ y.cls ≠ "java/lang/invoke/VarHandle" ∧ (parseMethodDescriptor y.desc).map (fun d => d.parameters.length) = some n) (hn : As.length = n) (hR : rm.frames + 1 ≤ R.frames ∧ 8 + (maxL + 11) + rm.locals ≤ R.locals)  (hstk : st = As.reverse ++ rest) (hcat : (rest.map fun v => v.category).sum ≤ 8) (hf : cells + mc ≤ R.cells ∧ slots + ms ≤ R.slots) (d : decode cc pc = .ok (.invokestatic index, 3)) (kx : ∀ (E0 : String) (u : SX) (q9 : Nat) (ce : Cell) (H : Heap) (locs : List Loc) (ls : Array Slot), px E0 u → va_P D vwCl (outx u) H → va_D A (outx u) → va_S A s.heap H locs → lv_has ls nL lv → H[q9]? = some ce → ce.vm = .none → s.vm.findClass E0 = some ce.cls → vx_W p l e R s m args below meth c H locs (cells + mc) (slots + ms) Q (F0 m pc ls rest) q9) (k : ∀ (r : Int32) (u : S), post r u → zW p l e R s m args below meth c D A Q nL (out u) (cells + mc) (slots + ms) (pc + 3) lv (.int r :: rest)) : zW p l e R s m args below meth c D A Q nL ws cells slots pc lv st := fun H locs ls hP hD hS hl => vx_calli (vx_runS (As := As) (rest := rest) ⟨E.hx, E.hb, E.hml, E.hown, E.hts⟩ (hM H.size) (va_cwS n E.hts hg hw hmc hms hd hR) ⟨zPc.blind, zPc.start hP hD hS E.hA E.hK hZ⟩ rfl hn hl.1 hstk (lv_room hcat) d hf) hS (fun q _ h => zA.in hD hS E.hA q h) (fun q h => zA.in hD hS E.hA q h) (fun q _ h => zA.in hD hS E.hA q h) (fun E0 ce q9 u t H1 locs1 ht hvm hp hB hz1 hk1 hS1 hce hcv hcl => kx E0 u.2 q9 ce H1 locs1 ls (by rw [hB.1]; exact hp) (by rw [← ht]; exact hB.2.1) (hB.2.2.2.weaken (fun _ q _ h => zA.in hD hS E.hA q.1 h)) hS1 hl hce hcv hcl) (fun r u t H1 locs1 ht hvm hp hB hz1 hk1 hS1 => k r u hp H1 locs1 ls (by rw [← ht]; exact hB.1) (hB.2.2.weaken (fun _ q _ h => zA.in hD hS E.hA q.1 h)) hS1 hl)
theorem z_callSiN (E : zE p s m args c D tys A nL cc own Ts) (hZ : zSK A s s.heap) {y : MethodName} {wl wl' : List Cond} {rm : Room} {bytes : ByteArray} {maxL mc ms n index : Nat} {ret : Option FieldType} {As st : List Value} {S : Type} {post : Int32 → S → Prop} {out : S → va_W} {SX : Type} {px : String → SX → Prop} {outx : SX → va_W} (hM : zXi l y wl rm D tys (As) ws post out px outx mc ms) (hg : GoodIn Ts (va_wsS own index y wl)) (hw : wl = Cond.code y bytes maxL ret :: wl') (hmc : rm.cells = mc) (hms : rm.slots = ms) (hd : y.cls ≠ "java/lang/invoke/MethodHandle" ∧ y.cls ≠ "java/lang/invoke/VarHandle" ∧ (parseMethodDescriptor y.desc).map (fun d => d.parameters.length) = some n) (hn : As.length = n) (hR : rm.frames + 1 ≤ R.frames ∧ 8 + (maxL + 11) + rm.locals ≤ R.locals)  (hstk : st = As.reverse ++ rest) (hcat : (rest.map fun v => v.category).sum ≤ 8) (hf : cells + mc ≤ R.cells ∧ slots + ms ≤ R.slots) (d : decode cc pc = .ok (.invokestatic index, 3)) (hno : ∀ (E0 : String) (u : SX), ¬ px E0 u) (k : ∀ (r : Int32) (u : S), post r u → zW p l e R s m args below meth c D A Q nL (out u) (cells + mc) (slots + ms) (pc + 3) lv (.int r :: rest)) : zW p l e R s m args below meth c D A Q nL ws cells slots pc lv st := z_callSiX E hZ hM hg hw hmc hms hd hn hR hstk hcat hf d (fun E0 u _ _ _ _ _ hp => absurd hp (hno E0 u)) k
theorem z_callVl (E : zE p s m args c D tys A nL cc own Ts) (hZ : zSK A s s.heap) {y : MethodName} {wl wl' : List Cond} {rm : Room} {bytes : ByteArray} {maxL mc ms n index : Nat} {ret : Option FieldType} {C : String} {b : Nat} {As st : List Value} {S : Type} {post : Int64 → S → Prop} {out : S → va_W} (hM : zMl l y wl rm D tys (.ref b :: As) ws post out mc ms) (hg : GoodIn Ts (wsV own index C y wl)) (hw : wl = Cond.code y bytes maxL ret :: wl') (hmc : rm.cells = mc) (hms : rm.slots = ms) (hd : y.cls = C ∧ y.cls ≠ "java/lang/invoke/MethodHandle" ∧ y.cls ≠ "java/lang/invoke/VarHandle" ∧ (parseMethodDescriptor y.desc).map (fun d => d.parameters.length) = some n) (hn : As.length = n) (hR : rm.frames + 1 ≤ R.frames ∧ 8 + (maxL + 11) + rm.locals ≤ R.locals) {T0 : u_T} {N ci : Nat} {fs : List Value} (hci : vwCl[ci]? = some (C, T0, N)) (q0 : Nat) (hrv : ws[q0]? = some (b, .inr (ci, fs))) (hstk : st = As.reverse ++ .ref b :: rest) (hcat : (rest.map fun v => v.category).sum ≤ 8) (hf : cells + mc ≤ R.cells ∧ slots + ms ≤ R.slots) (d : decode cc pc = .ok (.invokevirtual index, 3)) (k : ∀ (r : Int64) (u : S), post r u → zW p l e R s m args below meth c D A Q nL (out u) (cells + mc) (slots + ms) (pc + 3) lv (.long r :: rest)) : zW p l e R s m args below meth c D A Q nL ws cells slots pc lv st := fun H locs ls hP hD hS hl => va_calll (va_runV (As := As) (rest := rest) ⟨E.hx, E.hb, E.hml, E.hown, E.hts⟩ (hM H.size) (cwV n E.hts hg hw hmc hms hd hR) ⟨zPc.blind, va_recv E.hK hP hci hrv, zPc.start hP hD hS E.hA E.hK hZ⟩ rfl hn hl.1 hstk (lv_room hcat) d hf) hS (fun q _ h => zA.in hD hS E.hA q h) (fun q h => zA.in hD hS E.hA q h) (fun r u t H1 locs1 ht hvm hp hB hz1 hk1 hS1 => k r u hp H1 locs1 ls (by rw [← ht]; exact hB.1) (hB.2.2.weaken (fun _ q _ h => zA.in hD hS E.hA q.1 h)) hS1 hl)
theorem z_callVlX (E : zE p s m args c D tys A nL cc own Ts) (hZ : zSK A s s.heap) {y : MethodName} {wl wl' : List Cond} {rm : Room} {bytes : ByteArray} {maxL mc ms n index : Nat} {ret : Option FieldType} {C : String} {b : Nat} {As st : List Value} {S : Type} {post : Int64 → S → Prop} {out : S → va_W} {SX : Type} {px : String → SX → Prop} {outx : SX → va_W} (hM : zXl l y wl rm D tys (.ref b :: As) ws post out px outx mc ms) (hg : GoodIn Ts (wsV own index C y wl)) (hw : wl = Cond.code y bytes maxL ret :: wl') (hmc : rm.cells = mc) (hms : rm.slots = ms) (hd : y.cls = C ∧ y.cls ≠ "java/lang/invoke/MethodHandle" ∧ y.cls ≠ "java/lang/invoke/VarHandle" ∧ (parseMethodDescriptor y.desc).map (fun d => d.parameters.length) = some n) (hn : As.length = n) (hR : rm.frames + 1 ≤ R.frames ∧ 8 + (maxL + 11) + rm.locals ≤ R.locals) {T0 : u_T} {N ci : Nat} {fs : List Value} (hci : vwCl[ci]? = some (C, T0, N)) (q0 : Nat) (hrv : ws[q0]? = some (b, .inr (ci, fs))) (hstk : st = As.reverse ++ .ref b :: rest) (hcat : (rest.map fun v => v.category).sum ≤ 8) (hf : cells + mc ≤ R.cells ∧ slots + ms ≤ R.slots) (d : decode cc pc = .ok (.invokevirtual index, 3)) (kx : ∀ (E0 : String) (u : SX) (q9 : Nat) (ce : Cell) (H : Heap) (locs : List Loc) (ls : Array Slot), px E0 u → va_P D vwCl (outx u) H → va_D A (outx u) → va_S A s.heap H locs → lv_has ls nL lv → H[q9]? = some ce → ce.vm = .none → s.vm.findClass E0 = some ce.cls → vx_W p l e R s m args below meth c H locs (cells + mc) (slots + ms) Q (F0 m pc ls rest) q9) (k : ∀ (r : Int64) (u : S), post r u → zW p l e R s m args below meth c D A Q nL (out u) (cells + mc) (slots + ms) (pc + 3) lv (.long r :: rest)) : zW p l e R s m args below meth c D A Q nL ws cells slots pc lv st := fun H locs ls hP hD hS hl => vx_calll (vx_runV (As := As) (rest := rest) ⟨E.hx, E.hb, E.hml, E.hown, E.hts⟩ (hM H.size) (cwV n E.hts hg hw hmc hms hd hR) ⟨zPc.blind, va_recv E.hK hP hci hrv, zPc.start hP hD hS E.hA E.hK hZ⟩ rfl hn hl.1 hstk (lv_room hcat) d hf) hS (fun q _ h => zA.in hD hS E.hA q h) (fun q h => zA.in hD hS E.hA q h) (fun q _ h => zA.in hD hS E.hA q h) (fun E0 ce q9 u t H1 locs1 ht hvm hp hB hz1 hk1 hS1 hce hcv hcl => kx E0 u.2 q9 ce H1 locs1 ls (by rw [hB.1]; exact hp) (by rw [← ht]; exact hB.2.1) (hB.2.2.2.weaken (fun _ q _ h => zA.in hD hS E.hA q.1 h)) hS1 hl hce hcv hcl) (fun r u t H1 locs1 ht hvm hp hB hz1 hk1 hS1 => k r u hp H1 locs1 ls (by rw [← ht]; exact hB.1) (hB.2.2.weaken (fun _ q _ h => zA.in hD hS E.hA q.1 h)) hS1 hl)
theorem z_callVlN (E : zE p s m args c D tys A nL cc own Ts) (hZ : zSK A s s.heap) {y : MethodName} {wl wl' : List Cond} {rm : Room} {bytes : ByteArray} {maxL mc ms n index : Nat} {ret : Option FieldType} {C : String} {b : Nat} {As st : List Value} {S : Type} {post : Int64 → S → Prop} {out : S → va_W} {SX : Type} {px : String → SX → Prop} {outx : SX → va_W} (hM : zXl l y wl rm D tys (.ref b :: As) ws post out px outx mc ms) (hg : GoodIn Ts (wsV own index C y wl)) (hw : wl = Cond.code y bytes maxL ret :: wl') (hmc : rm.cells = mc) (hms : rm.slots = ms) (hd : y.cls = C ∧ y.cls ≠ "java/lang/invoke/MethodHandle" ∧ y.cls ≠ "java/lang/invoke/VarHandle" ∧ (parseMethodDescriptor y.desc).map (fun d => d.parameters.length) = some n) (hn : As.length = n) (hR : rm.frames + 1 ≤ R.frames ∧ 8 + (maxL + 11) + rm.locals ≤ R.locals) {T0 : u_T} {N ci : Nat} {fs : List Value} (hci : vwCl[ci]? = some (C, T0, N)) (q0 : Nat) (hrv : ws[q0]? = some (b, .inr (ci, fs))) (hstk : st = As.reverse ++ .ref b :: rest) (hcat : (rest.map fun v => v.category).sum ≤ 8) (hf : cells + mc ≤ R.cells ∧ slots + ms ≤ R.slots) (d : decode cc pc = .ok (.invokevirtual index, 3)) (hno : ∀ (E0 : String) (u : SX), ¬ px E0 u) (k : ∀ (r : Int64) (u : S), post r u → zW p l e R s m args below meth c D A Q nL (out u) (cells + mc) (slots + ms) (pc + 3) lv (.long r :: rest)) : zW p l e R s m args below meth c D A Q nL ws cells slots pc lv st := z_callVlX E hZ hM hg hw hmc hms hd hn hR hci q0 hrv hstk hcat hf d (fun E0 u _ _ _ _ _ hp => absurd hp (hno E0 u)) k
theorem z_callSl (E : zE p s m args c D tys A nL cc own Ts) (hZ : zSK A s s.heap) {y : MethodName} {wl wl' : List Cond} {rm : Room} {bytes : ByteArray} {maxL mc ms n index : Nat} {ret : Option FieldType} {As st : List Value} {S : Type} {post : Int64 → S → Prop} {out : S → va_W} (hM : zMl l y wl rm D tys (As) ws post out mc ms) (hg : GoodIn Ts (va_wsS own index y wl)) (hw : wl = Cond.code y bytes maxL ret :: wl') (hmc : rm.cells = mc) (hms : rm.slots = ms) (hd : y.cls ≠ "java/lang/invoke/MethodHandle" ∧ y.cls ≠ "java/lang/invoke/VarHandle" ∧ (parseMethodDescriptor y.desc).map (fun d => d.parameters.length) = some n) (hn : As.length = n) (hR : rm.frames + 1 ≤ R.frames ∧ 8 + (maxL + 11) + rm.locals ≤ R.locals)  (hstk : st = As.reverse ++ rest) (hcat : (rest.map fun v => v.category).sum ≤ 8) (hf : cells + mc ≤ R.cells ∧ slots + ms ≤ R.slots) (d : decode cc pc = .ok (.invokestatic index, 3)) (k : ∀ (r : Int64) (u : S), post r u → zW p l e R s m args below meth c D A Q nL (out u) (cells + mc) (slots + ms) (pc + 3) lv (.long r :: rest)) : zW p l e R s m args below meth c D A Q nL ws cells slots pc lv st := fun H locs ls hP hD hS hl => va_calll (va_runS (As := As) (rest := rest) ⟨E.hx, E.hb, E.hml, E.hown, E.hts⟩ (hM H.size) (va_cwS n E.hts hg hw hmc hms hd hR) ⟨zPc.blind, zPc.start hP hD hS E.hA E.hK hZ⟩ rfl hn hl.1 hstk (lv_room hcat) d hf) hS (fun q _ h => zA.in hD hS E.hA q h) (fun q h => zA.in hD hS E.hA q h) (fun r u t H1 locs1 ht hvm hp hB hz1 hk1 hS1 => k r u hp H1 locs1 ls (by rw [← ht]; exact hB.1) (hB.2.2.weaken (fun _ q _ h => zA.in hD hS E.hA q.1 h)) hS1 hl)
theorem z_callSlX (E : zE p s m args c D tys A nL cc own Ts) (hZ : zSK A s s.heap) {y : MethodName} {wl wl' : List Cond} {rm : Room} {bytes : ByteArray} {maxL mc ms n index : Nat} {ret : Option FieldType} {As st : List Value} {S : Type} {post : Int64 → S → Prop} {out : S → va_W} {SX : Type} {px : String → SX → Prop} {outx : SX → va_W} (hM : zXl l y wl rm D tys (As) ws post out px outx mc ms) (hg : GoodIn Ts (va_wsS own index y wl)) (hw : wl = Cond.code y bytes maxL ret :: wl') (hmc : rm.cells = mc) (hms : rm.slots = ms) (hd : y.cls ≠ "java/lang/invoke/MethodHandle" ∧ y.cls ≠ "java/lang/invoke/VarHandle" ∧ (parseMethodDescriptor y.desc).map (fun d => d.parameters.length) = some n) (hn : As.length = n) (hR : rm.frames + 1 ≤ R.frames ∧ 8 + (maxL + 11) + rm.locals ≤ R.locals)  (hstk : st = As.reverse ++ rest) (hcat : (rest.map fun v => v.category).sum ≤ 8) (hf : cells + mc ≤ R.cells ∧ slots + ms ≤ R.slots) (d : decode cc pc = .ok (.invokestatic index, 3)) (kx : ∀ (E0 : String) (u : SX) (q9 : Nat) (ce : Cell) (H : Heap) (locs : List Loc) (ls : Array Slot), px E0 u → va_P D vwCl (outx u) H → va_D A (outx u) → va_S A s.heap H locs → lv_has ls nL lv → H[q9]? = some ce → ce.vm = .none → s.vm.findClass E0 = some ce.cls → vx_W p l e R s m args below meth c H locs (cells + mc) (slots + ms) Q (F0 m pc ls rest) q9) (k : ∀ (r : Int64) (u : S), post r u → zW p l e R s m args below meth c D A Q nL (out u) (cells + mc) (slots + ms) (pc + 3) lv (.long r :: rest)) : zW p l e R s m args below meth c D A Q nL ws cells slots pc lv st := fun H locs ls hP hD hS hl => vx_calll (vx_runS (As := As) (rest := rest) ⟨E.hx, E.hb, E.hml, E.hown, E.hts⟩ (hM H.size) (va_cwS n E.hts hg hw hmc hms hd hR) ⟨zPc.blind, zPc.start hP hD hS E.hA E.hK hZ⟩ rfl hn hl.1 hstk (lv_room hcat) d hf) hS (fun q _ h => zA.in hD hS E.hA q h) (fun q h => zA.in hD hS E.hA q h) (fun q _ h => zA.in hD hS E.hA q h) (fun E0 ce q9 u t H1 locs1 ht hvm hp hB hz1 hk1 hS1 hce hcv hcl => kx E0 u.2 q9 ce H1 locs1 ls (by rw [hB.1]; exact hp) (by rw [← ht]; exact hB.2.1) (hB.2.2.2.weaken (fun _ q _ h => zA.in hD hS E.hA q.1 h)) hS1 hl hce hcv hcl) (fun r u t H1 locs1 ht hvm hp hB hz1 hk1 hS1 => k r u hp H1 locs1 ls (by rw [← ht]; exact hB.1) (hB.2.2.weaken (fun _ q _ h => zA.in hD hS E.hA q.1 h)) hS1 hl)
theorem z_callSlN (E : zE p s m args c D tys A nL cc own Ts) (hZ : zSK A s s.heap) {y : MethodName} {wl wl' : List Cond} {rm : Room} {bytes : ByteArray} {maxL mc ms n index : Nat} {ret : Option FieldType} {As st : List Value} {S : Type} {post : Int64 → S → Prop} {out : S → va_W} {SX : Type} {px : String → SX → Prop} {outx : SX → va_W} (hM : zXl l y wl rm D tys (As) ws post out px outx mc ms) (hg : GoodIn Ts (va_wsS own index y wl)) (hw : wl = Cond.code y bytes maxL ret :: wl') (hmc : rm.cells = mc) (hms : rm.slots = ms) (hd : y.cls ≠ "java/lang/invoke/MethodHandle" ∧ y.cls ≠ "java/lang/invoke/VarHandle" ∧ (parseMethodDescriptor y.desc).map (fun d => d.parameters.length) = some n) (hn : As.length = n) (hR : rm.frames + 1 ≤ R.frames ∧ 8 + (maxL + 11) + rm.locals ≤ R.locals)  (hstk : st = As.reverse ++ rest) (hcat : (rest.map fun v => v.category).sum ≤ 8) (hf : cells + mc ≤ R.cells ∧ slots + ms ≤ R.slots) (d : decode cc pc = .ok (.invokestatic index, 3)) (hno : ∀ (E0 : String) (u : SX), ¬ px E0 u) (k : ∀ (r : Int64) (u : S), post r u → zW p l e R s m args below meth c D A Q nL (out u) (cells + mc) (slots + ms) (pc + 3) lv (.long r :: rest)) : zW p l e R s m args below meth c D A Q nL ws cells slots pc lv st := z_callSlX E hZ hM hg hw hmc hms hd hn hR hstk hcat hf d (fun E0 u _ _ _ _ _ hp => absurd hp (hno E0 u)) k
theorem z_callVd (E : zE p s m args c D tys A nL cc own Ts) (hZ : zSK A s s.heap) {y : MethodName} {wl wl' : List Cond} {rm : Room} {bytes : ByteArray} {maxL mc ms n index : Nat} {ret : Option FieldType} {C : String} {b : Nat} {As st : List Value} {S : Type} {post : UInt64 → S → Prop} {out : S → va_W} (hM : zMd l y wl rm D tys (.ref b :: As) ws post out mc ms) (hg : GoodIn Ts (wsV own index C y wl)) (hw : wl = Cond.code y bytes maxL ret :: wl') (hmc : rm.cells = mc) (hms : rm.slots = ms) (hd : y.cls = C ∧ y.cls ≠ "java/lang/invoke/MethodHandle" ∧ y.cls ≠ "java/lang/invoke/VarHandle" ∧ (parseMethodDescriptor y.desc).map (fun d => d.parameters.length) = some n) (hn : As.length = n) (hR : rm.frames + 1 ≤ R.frames ∧ 8 + (maxL + 11) + rm.locals ≤ R.locals) {T0 : u_T} {N ci : Nat} {fs : List Value} (hci : vwCl[ci]? = some (C, T0, N)) (q0 : Nat) (hrv : ws[q0]? = some (b, .inr (ci, fs))) (hstk : st = As.reverse ++ .ref b :: rest) (hcat : (rest.map fun v => v.category).sum ≤ 8) (hf : cells + mc ≤ R.cells ∧ slots + ms ≤ R.slots) (d : decode cc pc = .ok (.invokevirtual index, 3)) (k : ∀ (r : UInt64) (u : S), post r u → zW p l e R s m args below meth c D A Q nL (out u) (cells + mc) (slots + ms) (pc + 3) lv (.double r :: rest)) : zW p l e R s m args below meth c D A Q nL ws cells slots pc lv st := fun H locs ls hP hD hS hl => va_calld (va_runV (As := As) (rest := rest) ⟨E.hx, E.hb, E.hml, E.hown, E.hts⟩ (hM H.size) (cwV n E.hts hg hw hmc hms hd hR) ⟨zPc.blind, va_recv E.hK hP hci hrv, zPc.start hP hD hS E.hA E.hK hZ⟩ rfl hn hl.1 hstk (lv_room hcat) d hf) hS (fun q _ h => zA.in hD hS E.hA q h) (fun q h => zA.in hD hS E.hA q h) (fun r u t H1 locs1 ht hvm hp hB hz1 hk1 hS1 => k r u hp H1 locs1 ls (by rw [← ht]; exact hB.1) (hB.2.2.weaken (fun _ q _ h => zA.in hD hS E.hA q.1 h)) hS1 hl)
theorem z_callVdX (E : zE p s m args c D tys A nL cc own Ts) (hZ : zSK A s s.heap) {y : MethodName} {wl wl' : List Cond} {rm : Room} {bytes : ByteArray} {maxL mc ms n index : Nat} {ret : Option FieldType} {C : String} {b : Nat} {As st : List Value} {S : Type} {post : UInt64 → S → Prop} {out : S → va_W} {SX : Type} {px : String → SX → Prop} {outx : SX → va_W} (hM : zXd l y wl rm D tys (.ref b :: As) ws post out px outx mc ms) (hg : GoodIn Ts (wsV own index C y wl)) (hw : wl = Cond.code y bytes maxL ret :: wl') (hmc : rm.cells = mc) (hms : rm.slots = ms) (hd : y.cls = C ∧ y.cls ≠ "java/lang/invoke/MethodHandle" ∧ y.cls ≠ "java/lang/invoke/VarHandle" ∧ (parseMethodDescriptor y.desc).map (fun d => d.parameters.length) = some n) (hn : As.length = n) (hR : rm.frames + 1 ≤ R.frames ∧ 8 + (maxL + 11) + rm.locals ≤ R.locals) {T0 : u_T} {N ci : Nat} {fs : List Value} (hci : vwCl[ci]? = some (C, T0, N)) (q0 : Nat) (hrv : ws[q0]? = some (b, .inr (ci, fs))) (hstk : st = As.reverse ++ .ref b :: rest) (hcat : (rest.map fun v => v.category).sum ≤ 8) (hf : cells + mc ≤ R.cells ∧ slots + ms ≤ R.slots) (d : decode cc pc = .ok (.invokevirtual index, 3)) (kx : ∀ (E0 : String) (u : SX) (q9 : Nat) (ce : Cell) (H : Heap) (locs : List Loc) (ls : Array Slot), px E0 u → va_P D vwCl (outx u) H → va_D A (outx u) → va_S A s.heap H locs → lv_has ls nL lv → H[q9]? = some ce → ce.vm = .none → s.vm.findClass E0 = some ce.cls → vx_W p l e R s m args below meth c H locs (cells + mc) (slots + ms) Q (F0 m pc ls rest) q9) (k : ∀ (r : UInt64) (u : S), post r u → zW p l e R s m args below meth c D A Q nL (out u) (cells + mc) (slots + ms) (pc + 3) lv (.double r :: rest)) : zW p l e R s m args below meth c D A Q nL ws cells slots pc lv st := fun H locs ls hP hD hS hl => vx_calld (vx_runV (As := As) (rest := rest) ⟨E.hx, E.hb, E.hml, E.hown, E.hts⟩ (hM H.size) (cwV n E.hts hg hw hmc hms hd hR) ⟨zPc.blind, va_recv E.hK hP hci hrv, zPc.start hP hD hS E.hA E.hK hZ⟩ rfl hn hl.1 hstk (lv_room hcat) d hf) hS (fun q _ h => zA.in hD hS E.hA q h) (fun q h => zA.in hD hS E.hA q h) (fun q _ h => zA.in hD hS E.hA q h) (fun E0 ce q9 u t H1 locs1 ht hvm hp hB hz1 hk1 hS1 hce hcv hcl => kx E0 u.2 q9 ce H1 locs1 ls (by rw [hB.1]; exact hp) (by rw [← ht]; exact hB.2.1) (hB.2.2.2.weaken (fun _ q _ h => zA.in hD hS E.hA q.1 h)) hS1 hl hce hcv hcl) (fun r u t H1 locs1 ht hvm hp hB hz1 hk1 hS1 => k r u hp H1 locs1 ls (by rw [← ht]; exact hB.1) (hB.2.2.weaken (fun _ q _ h => zA.in hD hS E.hA q.1 h)) hS1 hl)
theorem z_callVdN (E : zE p s m args c D tys A nL cc own Ts) (hZ : zSK A s s.heap) {y : MethodName} {wl wl' : List Cond} {rm : Room} {bytes : ByteArray} {maxL mc ms n index : Nat} {ret : Option FieldType} {C : String} {b : Nat} {As st : List Value} {S : Type} {post : UInt64 → S → Prop} {out : S → va_W} {SX : Type} {px : String → SX → Prop} {outx : SX → va_W} (hM : zXd l y wl rm D tys (.ref b :: As) ws post out px outx mc ms) (hg : GoodIn Ts (wsV own index C y wl)) (hw : wl = Cond.code y bytes maxL ret :: wl') (hmc : rm.cells = mc) (hms : rm.slots = ms) (hd : y.cls = C ∧ y.cls ≠ "java/lang/invoke/MethodHandle" ∧ y.cls ≠ "java/lang/invoke/VarHandle" ∧ (parseMethodDescriptor y.desc).map (fun d => d.parameters.length) = some n) (hn : As.length = n) (hR : rm.frames + 1 ≤ R.frames ∧ 8 + (maxL + 11) + rm.locals ≤ R.locals) {T0 : u_T} {N ci : Nat} {fs : List Value} (hci : vwCl[ci]? = some (C, T0, N)) (q0 : Nat) (hrv : ws[q0]? = some (b, .inr (ci, fs))) (hstk : st = As.reverse ++ .ref b :: rest) (hcat : (rest.map fun v => v.category).sum ≤ 8) (hf : cells + mc ≤ R.cells ∧ slots + ms ≤ R.slots) (d : decode cc pc = .ok (.invokevirtual index, 3)) (hno : ∀ (E0 : String) (u : SX), ¬ px E0 u) (k : ∀ (r : UInt64) (u : S), post r u → zW p l e R s m args below meth c D A Q nL (out u) (cells + mc) (slots + ms) (pc + 3) lv (.double r :: rest)) : zW p l e R s m args below meth c D A Q nL ws cells slots pc lv st := z_callVdX E hZ hM hg hw hmc hms hd hn hR hci q0 hrv hstk hcat hf d (fun E0 u _ _ _ _ _ hp => absurd hp (hno E0 u)) k
theorem z_callSd (E : zE p s m args c D tys A nL cc own Ts) (hZ : zSK A s s.heap) {y : MethodName} {wl wl' : List Cond} {rm : Room} {bytes : ByteArray} {maxL mc ms n index : Nat} {ret : Option FieldType} {As st : List Value} {S : Type} {post : UInt64 → S → Prop} {out : S → va_W} (hM : zMd l y wl rm D tys (As) ws post out mc ms) (hg : GoodIn Ts (va_wsS own index y wl)) (hw : wl = Cond.code y bytes maxL ret :: wl') (hmc : rm.cells = mc) (hms : rm.slots = ms) (hd : y.cls ≠ "java/lang/invoke/MethodHandle" ∧ y.cls ≠ "java/lang/invoke/VarHandle" ∧ (parseMethodDescriptor y.desc).map (fun d => d.parameters.length) = some n) (hn : As.length = n) (hR : rm.frames + 1 ≤ R.frames ∧ 8 + (maxL + 11) + rm.locals ≤ R.locals)  (hstk : st = As.reverse ++ rest) (hcat : (rest.map fun v => v.category).sum ≤ 8) (hf : cells + mc ≤ R.cells ∧ slots + ms ≤ R.slots) (d : decode cc pc = .ok (.invokestatic index, 3)) (k : ∀ (r : UInt64) (u : S), post r u → zW p l e R s m args below meth c D A Q nL (out u) (cells + mc) (slots + ms) (pc + 3) lv (.double r :: rest)) : zW p l e R s m args below meth c D A Q nL ws cells slots pc lv st := fun H locs ls hP hD hS hl => va_calld (va_runS (As := As) (rest := rest) ⟨E.hx, E.hb, E.hml, E.hown, E.hts⟩ (hM H.size) (va_cwS n E.hts hg hw hmc hms hd hR) ⟨zPc.blind, zPc.start hP hD hS E.hA E.hK hZ⟩ rfl hn hl.1 hstk (lv_room hcat) d hf) hS (fun q _ h => zA.in hD hS E.hA q h) (fun q h => zA.in hD hS E.hA q h) (fun r u t H1 locs1 ht hvm hp hB hz1 hk1 hS1 => k r u hp H1 locs1 ls (by rw [← ht]; exact hB.1) (hB.2.2.weaken (fun _ q _ h => zA.in hD hS E.hA q.1 h)) hS1 hl)
theorem z_callSdX (E : zE p s m args c D tys A nL cc own Ts) (hZ : zSK A s s.heap) {y : MethodName} {wl wl' : List Cond} {rm : Room} {bytes : ByteArray} {maxL mc ms n index : Nat} {ret : Option FieldType} {As st : List Value} {S : Type} {post : UInt64 → S → Prop} {out : S → va_W} {SX : Type} {px : String → SX → Prop} {outx : SX → va_W} (hM : zXd l y wl rm D tys (As) ws post out px outx mc ms) (hg : GoodIn Ts (va_wsS own index y wl)) (hw : wl = Cond.code y bytes maxL ret :: wl') (hmc : rm.cells = mc) (hms : rm.slots = ms) (hd : y.cls ≠ "java/lang/invoke/MethodHandle" ∧ y.cls ≠ "java/lang/invoke/VarHandle" ∧ (parseMethodDescriptor y.desc).map (fun d => d.parameters.length) = some n) (hn : As.length = n) (hR : rm.frames + 1 ≤ R.frames ∧ 8 + (maxL + 11) + rm.locals ≤ R.locals)  (hstk : st = As.reverse ++ rest) (hcat : (rest.map fun v => v.category).sum ≤ 8) (hf : cells + mc ≤ R.cells ∧ slots + ms ≤ R.slots) (d : decode cc pc = .ok (.invokestatic index, 3)) (kx : ∀ (E0 : String) (u : SX) (q9 : Nat) (ce : Cell) (H : Heap) (locs : List Loc) (ls : Array Slot), px E0 u → va_P D vwCl (outx u) H → va_D A (outx u) → va_S A s.heap H locs → lv_has ls nL lv → H[q9]? = some ce → ce.vm = .none → s.vm.findClass E0 = some ce.cls → vx_W p l e R s m args below meth c H locs (cells + mc) (slots + ms) Q (F0 m pc ls rest) q9) (k : ∀ (r : UInt64) (u : S), post r u → zW p l e R s m args below meth c D A Q nL (out u) (cells + mc) (slots + ms) (pc + 3) lv (.double r :: rest)) : zW p l e R s m args below meth c D A Q nL ws cells slots pc lv st := fun H locs ls hP hD hS hl => vx_calld (vx_runS (As := As) (rest := rest) ⟨E.hx, E.hb, E.hml, E.hown, E.hts⟩ (hM H.size) (va_cwS n E.hts hg hw hmc hms hd hR) ⟨zPc.blind, zPc.start hP hD hS E.hA E.hK hZ⟩ rfl hn hl.1 hstk (lv_room hcat) d hf) hS (fun q _ h => zA.in hD hS E.hA q h) (fun q h => zA.in hD hS E.hA q h) (fun q _ h => zA.in hD hS E.hA q h) (fun E0 ce q9 u t H1 locs1 ht hvm hp hB hz1 hk1 hS1 hce hcv hcl => kx E0 u.2 q9 ce H1 locs1 ls (by rw [hB.1]; exact hp) (by rw [← ht]; exact hB.2.1) (hB.2.2.2.weaken (fun _ q _ h => zA.in hD hS E.hA q.1 h)) hS1 hl hce hcv hcl) (fun r u t H1 locs1 ht hvm hp hB hz1 hk1 hS1 => k r u hp H1 locs1 ls (by rw [← ht]; exact hB.1) (hB.2.2.weaken (fun _ q _ h => zA.in hD hS E.hA q.1 h)) hS1 hl)
theorem z_callSdN (E : zE p s m args c D tys A nL cc own Ts) (hZ : zSK A s s.heap) {y : MethodName} {wl wl' : List Cond} {rm : Room} {bytes : ByteArray} {maxL mc ms n index : Nat} {ret : Option FieldType} {As st : List Value} {S : Type} {post : UInt64 → S → Prop} {out : S → va_W} {SX : Type} {px : String → SX → Prop} {outx : SX → va_W} (hM : zXd l y wl rm D tys (As) ws post out px outx mc ms) (hg : GoodIn Ts (va_wsS own index y wl)) (hw : wl = Cond.code y bytes maxL ret :: wl') (hmc : rm.cells = mc) (hms : rm.slots = ms) (hd : y.cls ≠ "java/lang/invoke/MethodHandle" ∧ y.cls ≠ "java/lang/invoke/VarHandle" ∧ (parseMethodDescriptor y.desc).map (fun d => d.parameters.length) = some n) (hn : As.length = n) (hR : rm.frames + 1 ≤ R.frames ∧ 8 + (maxL + 11) + rm.locals ≤ R.locals)  (hstk : st = As.reverse ++ rest) (hcat : (rest.map fun v => v.category).sum ≤ 8) (hf : cells + mc ≤ R.cells ∧ slots + ms ≤ R.slots) (d : decode cc pc = .ok (.invokestatic index, 3)) (hno : ∀ (E0 : String) (u : SX), ¬ px E0 u) (k : ∀ (r : UInt64) (u : S), post r u → zW p l e R s m args below meth c D A Q nL (out u) (cells + mc) (slots + ms) (pc + 3) lv (.double r :: rest)) : zW p l e R s m args below meth c D A Q nL ws cells slots pc lv st := z_callSdX E hZ hM hg hw hmc hms hd hn hR hstk hcat hf d (fun E0 u _ _ _ _ _ hp => absurd hp (hno E0 u)) k
theorem z_callVq (E : zE p s m args c D tys A nL cc own Ts) (hZ : zSK A s s.heap) {y : MethodName} {wl wl' : List Cond} {rm : Room} {bytes : ByteArray} {maxL mc ms n index : Nat} {ret : Option FieldType} {C : String} {b : Nat} {As st : List Value} {S : Type} {post : Option Nat → S → Prop} {out : S → va_W} (hM : zMq l y wl rm D tys (.ref b :: As) ws post out mc ms) (hg : GoodIn Ts (wsV own index C y wl)) (hw : wl = Cond.code y bytes maxL ret :: wl') (hmc : rm.cells = mc) (hms : rm.slots = ms) (hd : y.cls = C ∧ y.cls ≠ "java/lang/invoke/MethodHandle" ∧ y.cls ≠ "java/lang/invoke/VarHandle" ∧ (parseMethodDescriptor y.desc).map (fun d => d.parameters.length) = some n) (hn : As.length = n) (hR : rm.frames + 1 ≤ R.frames ∧ 8 + (maxL + 11) + rm.locals ≤ R.locals) {T0 : u_T} {N ci : Nat} {fs : List Value} (hci : vwCl[ci]? = some (C, T0, N)) (q0 : Nat) (hrv : ws[q0]? = some (b, .inr (ci, fs))) (hstk : st = As.reverse ++ .ref b :: rest) (hcat : (rest.map fun v => v.category).sum ≤ 8) (hf : cells + mc ≤ R.cells ∧ slots + ms ≤ R.slots) (d : decode cc pc = .ok (.invokevirtual index, 3)) (k : ∀ (r : Option Nat) (u : S), post r u → zW p l e R s m args below meth c D A Q nL (out u) (cells + mc) (slots + ms) (pc + 3) lv (va_rf r :: rest)) : zW p l e R s m args below meth c D A Q nL ws cells slots pc lv st := fun H locs ls hP hD hS hl => va_callq (va_runV (As := As) (rest := rest) ⟨E.hx, E.hb, E.hml, E.hown, E.hts⟩ (hM H.size) (cwV n E.hts hg hw hmc hms hd hR) ⟨zPc.blind, va_recv E.hK hP hci hrv, zPc.start hP hD hS E.hA E.hK hZ⟩ rfl hn hl.1 hstk (lv_room hcat) d hf) hS (fun q _ h => zA.in hD hS E.hA q h) (fun q h => zA.in hD hS E.hA q h) (fun r u t H1 locs1 ht hvm hp hB hz1 hk1 hS1 => k r u hp H1 locs1 ls (by rw [← ht]; exact hB.1) (hB.2.2.weaken (fun _ q _ h => zA.in hD hS E.hA q.1 h)) hS1 hl)
theorem z_callVqX (E : zE p s m args c D tys A nL cc own Ts) (hZ : zSK A s s.heap) {y : MethodName} {wl wl' : List Cond} {rm : Room} {bytes : ByteArray} {maxL mc ms n index : Nat} {ret : Option FieldType} {C : String} {b : Nat} {As st : List Value} {S : Type} {post : Option Nat → S → Prop} {out : S → va_W} {SX : Type} {px : String → SX → Prop} {outx : SX → va_W} (hM : zXq l y wl rm D tys (.ref b :: As) ws post out px outx mc ms) (hg : GoodIn Ts (wsV own index C y wl)) (hw : wl = Cond.code y bytes maxL ret :: wl') (hmc : rm.cells = mc) (hms : rm.slots = ms) (hd : y.cls = C ∧ y.cls ≠ "java/lang/invoke/MethodHandle" ∧ y.cls ≠ "java/lang/invoke/VarHandle" ∧ (parseMethodDescriptor y.desc).map (fun d => d.parameters.length) = some n) (hn : As.length = n) (hR : rm.frames + 1 ≤ R.frames ∧ 8 + (maxL + 11) + rm.locals ≤ R.locals) {T0 : u_T} {N ci : Nat} {fs : List Value} (hci : vwCl[ci]? = some (C, T0, N)) (q0 : Nat) (hrv : ws[q0]? = some (b, .inr (ci, fs))) (hstk : st = As.reverse ++ .ref b :: rest) (hcat : (rest.map fun v => v.category).sum ≤ 8) (hf : cells + mc ≤ R.cells ∧ slots + ms ≤ R.slots) (d : decode cc pc = .ok (.invokevirtual index, 3)) (kx : ∀ (E0 : String) (u : SX) (q9 : Nat) (ce : Cell) (H : Heap) (locs : List Loc) (ls : Array Slot), px E0 u → va_P D vwCl (outx u) H → va_D A (outx u) → va_S A s.heap H locs → lv_has ls nL lv → H[q9]? = some ce → ce.vm = .none → s.vm.findClass E0 = some ce.cls → vx_W p l e R s m args below meth c H locs (cells + mc) (slots + ms) Q (F0 m pc ls rest) q9) (k : ∀ (r : Option Nat) (u : S), post r u → zW p l e R s m args below meth c D A Q nL (out u) (cells + mc) (slots + ms) (pc + 3) lv (va_rf r :: rest)) : zW p l e R s m args below meth c D A Q nL ws cells slots pc lv st := fun H locs ls hP hD hS hl => vx_callq (vx_runV (As := As) (rest := rest) ⟨E.hx, E.hb, E.hml, E.hown, E.hts⟩ (hM H.size) (cwV n E.hts hg hw hmc hms hd hR) ⟨zPc.blind, va_recv E.hK hP hci hrv, zPc.start hP hD hS E.hA E.hK hZ⟩ rfl hn hl.1 hstk (lv_room hcat) d hf) hS (fun q _ h => zA.in hD hS E.hA q h) (fun q h => zA.in hD hS E.hA q h) (fun q _ h => zA.in hD hS E.hA q h) (fun E0 ce q9 u t H1 locs1 ht hvm hp hB hz1 hk1 hS1 hce hcv hcl => kx E0 u.2 q9 ce H1 locs1 ls (by rw [hB.1]; exact hp) (by rw [← ht]; exact hB.2.1) (hB.2.2.2.weaken (fun _ q _ h => zA.in hD hS E.hA q.1 h)) hS1 hl hce hcv hcl) (fun r u t H1 locs1 ht hvm hp hB hz1 hk1 hS1 => k r u hp H1 locs1 ls (by rw [← ht]; exact hB.1) (hB.2.2.weaken (fun _ q _ h => zA.in hD hS E.hA q.1 h)) hS1 hl)
theorem z_callVqN (E : zE p s m args c D tys A nL cc own Ts) (hZ : zSK A s s.heap) {y : MethodName} {wl wl' : List Cond} {rm : Room} {bytes : ByteArray} {maxL mc ms n index : Nat} {ret : Option FieldType} {C : String} {b : Nat} {As st : List Value} {S : Type} {post : Option Nat → S → Prop} {out : S → va_W} {SX : Type} {px : String → SX → Prop} {outx : SX → va_W} (hM : zXq l y wl rm D tys (.ref b :: As) ws post out px outx mc ms) (hg : GoodIn Ts (wsV own index C y wl)) (hw : wl = Cond.code y bytes maxL ret :: wl') (hmc : rm.cells = mc) (hms : rm.slots = ms) (hd : y.cls = C ∧ y.cls ≠ "java/lang/invoke/MethodHandle" ∧ y.cls ≠ "java/lang/invoke/VarHandle" ∧ (parseMethodDescriptor y.desc).map (fun d => d.parameters.length) = some n) (hn : As.length = n) (hR : rm.frames + 1 ≤ R.frames ∧ 8 + (maxL + 11) + rm.locals ≤ R.locals) {T0 : u_T} {N ci : Nat} {fs : List Value} (hci : vwCl[ci]? = some (C, T0, N)) (q0 : Nat) (hrv : ws[q0]? = some (b, .inr (ci, fs))) (hstk : st = As.reverse ++ .ref b :: rest) (hcat : (rest.map fun v => v.category).sum ≤ 8) (hf : cells + mc ≤ R.cells ∧ slots + ms ≤ R.slots) (d : decode cc pc = .ok (.invokevirtual index, 3)) (hno : ∀ (E0 : String) (u : SX), ¬ px E0 u) (k : ∀ (r : Option Nat) (u : S), post r u → zW p l e R s m args below meth c D A Q nL (out u) (cells + mc) (slots + ms) (pc + 3) lv (va_rf r :: rest)) : zW p l e R s m args below meth c D A Q nL ws cells slots pc lv st := z_callVqX E hZ hM hg hw hmc hms hd hn hR hci q0 hrv hstk hcat hf d (fun E0 u _ _ _ _ _ hp => absurd hp (hno E0 u)) k
theorem z_callSq (E : zE p s m args c D tys A nL cc own Ts) (hZ : zSK A s s.heap) {y : MethodName} {wl wl' : List Cond} {rm : Room} {bytes : ByteArray} {maxL mc ms n index : Nat} {ret : Option FieldType} {As st : List Value} {S : Type} {post : Option Nat → S → Prop} {out : S → va_W} (hM : zMq l y wl rm D tys (As) ws post out mc ms) (hg : GoodIn Ts (va_wsS own index y wl)) (hw : wl = Cond.code y bytes maxL ret :: wl') (hmc : rm.cells = mc) (hms : rm.slots = ms) (hd : y.cls ≠ "java/lang/invoke/MethodHandle" ∧ y.cls ≠ "java/lang/invoke/VarHandle" ∧ (parseMethodDescriptor y.desc).map (fun d => d.parameters.length) = some n) (hn : As.length = n) (hR : rm.frames + 1 ≤ R.frames ∧ 8 + (maxL + 11) + rm.locals ≤ R.locals)  (hstk : st = As.reverse ++ rest) (hcat : (rest.map fun v => v.category).sum ≤ 8) (hf : cells + mc ≤ R.cells ∧ slots + ms ≤ R.slots) (d : decode cc pc = .ok (.invokestatic index, 3)) (k : ∀ (r : Option Nat) (u : S), post r u → zW p l e R s m args below meth c D A Q nL (out u) (cells + mc) (slots + ms) (pc + 3) lv (va_rf r :: rest)) : zW p l e R s m args below meth c D A Q nL ws cells slots pc lv st := fun H locs ls hP hD hS hl => va_callq (va_runS (As := As) (rest := rest) ⟨E.hx, E.hb, E.hml, E.hown, E.hts⟩ (hM H.size) (va_cwS n E.hts hg hw hmc hms hd hR) ⟨zPc.blind, zPc.start hP hD hS E.hA E.hK hZ⟩ rfl hn hl.1 hstk (lv_room hcat) d hf) hS (fun q _ h => zA.in hD hS E.hA q h) (fun q h => zA.in hD hS E.hA q h) (fun r u t H1 locs1 ht hvm hp hB hz1 hk1 hS1 => k r u hp H1 locs1 ls (by rw [← ht]; exact hB.1) (hB.2.2.weaken (fun _ q _ h => zA.in hD hS E.hA q.1 h)) hS1 hl)
theorem z_callSqX (E : zE p s m args c D tys A nL cc own Ts) (hZ : zSK A s s.heap) {y : MethodName} {wl wl' : List Cond} {rm : Room} {bytes : ByteArray} {maxL mc ms n index : Nat} {ret : Option FieldType} {As st : List Value} {S : Type} {post : Option Nat → S → Prop} {out : S → va_W} {SX : Type} {px : String → SX → Prop} {outx : SX → va_W} (hM : zXq l y wl rm D tys (As) ws post out px outx mc ms) (hg : GoodIn Ts (va_wsS own index y wl)) (hw : wl = Cond.code y bytes maxL ret :: wl') (hmc : rm.cells = mc) (hms : rm.slots = ms) (hd : y.cls ≠ "java/lang/invoke/MethodHandle" ∧ y.cls ≠ "java/lang/invoke/VarHandle" ∧ (parseMethodDescriptor y.desc).map (fun d => d.parameters.length) = some n) (hn : As.length = n) (hR : rm.frames + 1 ≤ R.frames ∧ 8 + (maxL + 11) + rm.locals ≤ R.locals)  (hstk : st = As.reverse ++ rest) (hcat : (rest.map fun v => v.category).sum ≤ 8) (hf : cells + mc ≤ R.cells ∧ slots + ms ≤ R.slots) (d : decode cc pc = .ok (.invokestatic index, 3)) (kx : ∀ (E0 : String) (u : SX) (q9 : Nat) (ce : Cell) (H : Heap) (locs : List Loc) (ls : Array Slot), px E0 u → va_P D vwCl (outx u) H → va_D A (outx u) → va_S A s.heap H locs → lv_has ls nL lv → H[q9]? = some ce → ce.vm = .none → s.vm.findClass E0 = some ce.cls → vx_W p l e R s m args below meth c H locs (cells + mc) (slots + ms) Q (F0 m pc ls rest) q9) (k : ∀ (r : Option Nat) (u : S), post r u → zW p l e R s m args below meth c D A Q nL (out u) (cells + mc) (slots + ms) (pc + 3) lv (va_rf r :: rest)) : zW p l e R s m args below meth c D A Q nL ws cells slots pc lv st := fun H locs ls hP hD hS hl => vx_callq (vx_runS (As := As) (rest := rest) ⟨E.hx, E.hb, E.hml, E.hown, E.hts⟩ (hM H.size) (va_cwS n E.hts hg hw hmc hms hd hR) ⟨zPc.blind, zPc.start hP hD hS E.hA E.hK hZ⟩ rfl hn hl.1 hstk (lv_room hcat) d hf) hS (fun q _ h => zA.in hD hS E.hA q h) (fun q h => zA.in hD hS E.hA q h) (fun q _ h => zA.in hD hS E.hA q h) (fun E0 ce q9 u t H1 locs1 ht hvm hp hB hz1 hk1 hS1 hce hcv hcl => kx E0 u.2 q9 ce H1 locs1 ls (by rw [hB.1]; exact hp) (by rw [← ht]; exact hB.2.1) (hB.2.2.2.weaken (fun _ q _ h => zA.in hD hS E.hA q.1 h)) hS1 hl hce hcv hcl) (fun r u t H1 locs1 ht hvm hp hB hz1 hk1 hS1 => k r u hp H1 locs1 ls (by rw [← ht]; exact hB.1) (hB.2.2.weaken (fun _ q _ h => zA.in hD hS E.hA q.1 h)) hS1 hl)
theorem z_callSqN (E : zE p s m args c D tys A nL cc own Ts) (hZ : zSK A s s.heap) {y : MethodName} {wl wl' : List Cond} {rm : Room} {bytes : ByteArray} {maxL mc ms n index : Nat} {ret : Option FieldType} {As st : List Value} {S : Type} {post : Option Nat → S → Prop} {out : S → va_W} {SX : Type} {px : String → SX → Prop} {outx : SX → va_W} (hM : zXq l y wl rm D tys (As) ws post out px outx mc ms) (hg : GoodIn Ts (va_wsS own index y wl)) (hw : wl = Cond.code y bytes maxL ret :: wl') (hmc : rm.cells = mc) (hms : rm.slots = ms) (hd : y.cls ≠ "java/lang/invoke/MethodHandle" ∧ y.cls ≠ "java/lang/invoke/VarHandle" ∧ (parseMethodDescriptor y.desc).map (fun d => d.parameters.length) = some n) (hn : As.length = n) (hR : rm.frames + 1 ≤ R.frames ∧ 8 + (maxL + 11) + rm.locals ≤ R.locals)  (hstk : st = As.reverse ++ rest) (hcat : (rest.map fun v => v.category).sum ≤ 8) (hf : cells + mc ≤ R.cells ∧ slots + ms ≤ R.slots) (d : decode cc pc = .ok (.invokestatic index, 3)) (hno : ∀ (E0 : String) (u : SX), ¬ px E0 u) (k : ∀ (r : Option Nat) (u : S), post r u → zW p l e R s m args below meth c D A Q nL (out u) (cells + mc) (slots + ms) (pc + 3) lv (va_rf r :: rest)) : zW p l e R s m args below meth c D A Q nL ws cells slots pc lv st := z_callSqX E hZ hM hg hw hmc hms hd hn hR hstk hcat hf d (fun E0 u _ _ _ _ _ hp => absurd hp (hno E0 u)) k
theorem z_callVv (E : zE p s m args c D tys A nL cc own Ts) (hZ : zSK A s s.heap) {y : MethodName} {wl wl' : List Cond} {rm : Room} {bytes : ByteArray} {maxL mc ms n index : Nat} {ret : Option FieldType} {C : String} {b : Nat} {As st : List Value} {S : Type} {post : S → Prop} {out : S → va_W} (hM : zMv l y wl rm D tys (.ref b :: As) ws post out mc ms) (hg : GoodIn Ts (wsV own index C y wl)) (hw : wl = Cond.code y bytes maxL ret :: wl') (hmc : rm.cells = mc) (hms : rm.slots = ms) (hd : y.cls = C ∧ y.cls ≠ "java/lang/invoke/MethodHandle" ∧ y.cls ≠ "java/lang/invoke/VarHandle" ∧ (parseMethodDescriptor y.desc).map (fun d => d.parameters.length) = some n) (hn : As.length = n) (hR : rm.frames + 1 ≤ R.frames ∧ 8 + (maxL + 11) + rm.locals ≤ R.locals) {T0 : u_T} {N ci : Nat} {fs : List Value} (hci : vwCl[ci]? = some (C, T0, N)) (q0 : Nat) (hrv : ws[q0]? = some (b, .inr (ci, fs))) (hstk : st = As.reverse ++ .ref b :: rest) (hcat : (rest.map fun v => v.category).sum ≤ 8) (hf : cells + mc ≤ R.cells ∧ slots + ms ≤ R.slots) (d : decode cc pc = .ok (.invokevirtual index, 3)) (k : ∀ (u : S), post u → zW p l e R s m args below meth c D A Q nL (out u) (cells + mc) (slots + ms) (pc + 3) lv (rest)) : zW p l e R s m args below meth c D A Q nL ws cells slots pc lv st := fun H locs ls hP hD hS hl => va_callv (va_runV (As := As) (rest := rest) ⟨E.hx, E.hb, E.hml, E.hown, E.hts⟩ (hM H.size) (cwV n E.hts hg hw hmc hms hd hR) ⟨zPc.blind, va_recv E.hK hP hci hrv, zPc.start hP hD hS E.hA E.hK hZ⟩ rfl hn hl.1 hstk (lv_room hcat) d hf) hS (fun q _ h => zA.in hD hS E.hA q h) (fun q h => zA.in hD hS E.hA q h) (fun u t H1 locs1 ht hvm hp hB hz1 hk1 hS1 => k u hp H1 locs1 ls (by rw [← ht]; exact hB.1) (hB.2.2.weaken (fun _ q _ h => zA.in hD hS E.hA q.1 h)) hS1 hl)
theorem z_callVvX (E : zE p s m args c D tys A nL cc own Ts) (hZ : zSK A s s.heap) {y : MethodName} {wl wl' : List Cond} {rm : Room} {bytes : ByteArray} {maxL mc ms n index : Nat} {ret : Option FieldType} {C : String} {b : Nat} {As st : List Value} {S : Type} {post : S → Prop} {out : S → va_W} {SX : Type} {px : String → SX → Prop} {outx : SX → va_W} (hM : zXv l y wl rm D tys (.ref b :: As) ws post out px outx mc ms) (hg : GoodIn Ts (wsV own index C y wl)) (hw : wl = Cond.code y bytes maxL ret :: wl') (hmc : rm.cells = mc) (hms : rm.slots = ms) (hd : y.cls = C ∧ y.cls ≠ "java/lang/invoke/MethodHandle" ∧ y.cls ≠ "java/lang/invoke/VarHandle" ∧ (parseMethodDescriptor y.desc).map (fun d => d.parameters.length) = some n) (hn : As.length = n) (hR : rm.frames + 1 ≤ R.frames ∧ 8 + (maxL + 11) + rm.locals ≤ R.locals) {T0 : u_T} {N ci : Nat} {fs : List Value} (hci : vwCl[ci]? = some (C, T0, N)) (q0 : Nat) (hrv : ws[q0]? = some (b, .inr (ci, fs))) (hstk : st = As.reverse ++ .ref b :: rest) (hcat : (rest.map fun v => v.category).sum ≤ 8) (hf : cells + mc ≤ R.cells ∧ slots + ms ≤ R.slots) (d : decode cc pc = .ok (.invokevirtual index, 3)) (kx : ∀ (E0 : String) (u : SX) (q9 : Nat) (ce : Cell) (H : Heap) (locs : List Loc) (ls : Array Slot), px E0 u → va_P D vwCl (outx u) H → va_D A (outx u) → va_S A s.heap H locs → lv_has ls nL lv → H[q9]? = some ce → ce.vm = .none → s.vm.findClass E0 = some ce.cls → vx_W p l e R s m args below meth c H locs (cells + mc) (slots + ms) Q (F0 m pc ls rest) q9) (k : ∀ (u : S), post u → zW p l e R s m args below meth c D A Q nL (out u) (cells + mc) (slots + ms) (pc + 3) lv (rest)) : zW p l e R s m args below meth c D A Q nL ws cells slots pc lv st := fun H locs ls hP hD hS hl => vx_callv (vx_runV (As := As) (rest := rest) ⟨E.hx, E.hb, E.hml, E.hown, E.hts⟩ (hM H.size) (cwV n E.hts hg hw hmc hms hd hR) ⟨zPc.blind, va_recv E.hK hP hci hrv, zPc.start hP hD hS E.hA E.hK hZ⟩ rfl hn hl.1 hstk (lv_room hcat) d hf) hS (fun q _ h => zA.in hD hS E.hA q h) (fun q h => zA.in hD hS E.hA q h) (fun q _ h => zA.in hD hS E.hA q h) (fun E0 ce q9 u t H1 locs1 ht hvm hp hB hz1 hk1 hS1 hce hcv hcl => kx E0 u.2 q9 ce H1 locs1 ls (by rw [hB.1]; exact hp) (by rw [← ht]; exact hB.2.1) (hB.2.2.2.weaken (fun _ q _ h => zA.in hD hS E.hA q.1 h)) hS1 hl hce hcv hcl) (fun u t H1 locs1 ht hvm hp hB hz1 hk1 hS1 => k u hp H1 locs1 ls (by rw [← ht]; exact hB.1) (hB.2.2.weaken (fun _ q _ h => zA.in hD hS E.hA q.1 h)) hS1 hl)
theorem z_callVvN (E : zE p s m args c D tys A nL cc own Ts) (hZ : zSK A s s.heap) {y : MethodName} {wl wl' : List Cond} {rm : Room} {bytes : ByteArray} {maxL mc ms n index : Nat} {ret : Option FieldType} {C : String} {b : Nat} {As st : List Value} {S : Type} {post : S → Prop} {out : S → va_W} {SX : Type} {px : String → SX → Prop} {outx : SX → va_W} (hM : zXv l y wl rm D tys (.ref b :: As) ws post out px outx mc ms) (hg : GoodIn Ts (wsV own index C y wl)) (hw : wl = Cond.code y bytes maxL ret :: wl') (hmc : rm.cells = mc) (hms : rm.slots = ms) (hd : y.cls = C ∧ y.cls ≠ "java/lang/invoke/MethodHandle" ∧ y.cls ≠ "java/lang/invoke/VarHandle" ∧ (parseMethodDescriptor y.desc).map (fun d => d.parameters.length) = some n) (hn : As.length = n) (hR : rm.frames + 1 ≤ R.frames ∧ 8 + (maxL + 11) + rm.locals ≤ R.locals) {T0 : u_T} {N ci : Nat} {fs : List Value} (hci : vwCl[ci]? = some (C, T0, N)) (q0 : Nat) (hrv : ws[q0]? = some (b, .inr (ci, fs))) (hstk : st = As.reverse ++ .ref b :: rest) (hcat : (rest.map fun v => v.category).sum ≤ 8) (hf : cells + mc ≤ R.cells ∧ slots + ms ≤ R.slots) (d : decode cc pc = .ok (.invokevirtual index, 3)) (hno : ∀ (E0 : String) (u : SX), ¬ px E0 u) (k : ∀ (u : S), post u → zW p l e R s m args below meth c D A Q nL (out u) (cells + mc) (slots + ms) (pc + 3) lv (rest)) : zW p l e R s m args below meth c D A Q nL ws cells slots pc lv st := z_callVvX E hZ hM hg hw hmc hms hd hn hR hci q0 hrv hstk hcat hf d (fun E0 u _ _ _ _ _ hp => absurd hp (hno E0 u)) k
theorem z_callSv (E : zE p s m args c D tys A nL cc own Ts) (hZ : zSK A s s.heap) {y : MethodName} {wl wl' : List Cond} {rm : Room} {bytes : ByteArray} {maxL mc ms n index : Nat} {ret : Option FieldType} {As st : List Value} {S : Type} {post : S → Prop} {out : S → va_W} (hM : zMv l y wl rm D tys (As) ws post out mc ms) (hg : GoodIn Ts (va_wsS own index y wl)) (hw : wl = Cond.code y bytes maxL ret :: wl') (hmc : rm.cells = mc) (hms : rm.slots = ms) (hd : y.cls ≠ "java/lang/invoke/MethodHandle" ∧ y.cls ≠ "java/lang/invoke/VarHandle" ∧ (parseMethodDescriptor y.desc).map (fun d => d.parameters.length) = some n) (hn : As.length = n) (hR : rm.frames + 1 ≤ R.frames ∧ 8 + (maxL + 11) + rm.locals ≤ R.locals)  (hstk : st = As.reverse ++ rest) (hcat : (rest.map fun v => v.category).sum ≤ 8) (hf : cells + mc ≤ R.cells ∧ slots + ms ≤ R.slots) (d : decode cc pc = .ok (.invokestatic index, 3)) (k : ∀ (u : S), post u → zW p l e R s m args below meth c D A Q nL (out u) (cells + mc) (slots + ms) (pc + 3) lv (rest)) : zW p l e R s m args below meth c D A Q nL ws cells slots pc lv st := fun H locs ls hP hD hS hl => va_callv (va_runS (As := As) (rest := rest) ⟨E.hx, E.hb, E.hml, E.hown, E.hts⟩ (hM H.size) (va_cwS n E.hts hg hw hmc hms hd hR) ⟨zPc.blind, zPc.start hP hD hS E.hA E.hK hZ⟩ rfl hn hl.1 hstk (lv_room hcat) d hf) hS (fun q _ h => zA.in hD hS E.hA q h) (fun q h => zA.in hD hS E.hA q h) (fun u t H1 locs1 ht hvm hp hB hz1 hk1 hS1 => k u hp H1 locs1 ls (by rw [← ht]; exact hB.1) (hB.2.2.weaken (fun _ q _ h => zA.in hD hS E.hA q.1 h)) hS1 hl)
theorem z_callSvX (E : zE p s m args c D tys A nL cc own Ts) (hZ : zSK A s s.heap) {y : MethodName} {wl wl' : List Cond} {rm : Room} {bytes : ByteArray} {maxL mc ms n index : Nat} {ret : Option FieldType} {As st : List Value} {S : Type} {post : S → Prop} {out : S → va_W} {SX : Type} {px : String → SX → Prop} {outx : SX → va_W} (hM : zXv l y wl rm D tys (As) ws post out px outx mc ms) (hg : GoodIn Ts (va_wsS own index y wl)) (hw : wl = Cond.code y bytes maxL ret :: wl') (hmc : rm.cells = mc) (hms : rm.slots = ms) (hd : y.cls ≠ "java/lang/invoke/MethodHandle" ∧ y.cls ≠ "java/lang/invoke/VarHandle" ∧ (parseMethodDescriptor y.desc).map (fun d => d.parameters.length) = some n) (hn : As.length = n) (hR : rm.frames + 1 ≤ R.frames ∧ 8 + (maxL + 11) + rm.locals ≤ R.locals)  (hstk : st = As.reverse ++ rest) (hcat : (rest.map fun v => v.category).sum ≤ 8) (hf : cells + mc ≤ R.cells ∧ slots + ms ≤ R.slots) (d : decode cc pc = .ok (.invokestatic index, 3)) (kx : ∀ (E0 : String) (u : SX) (q9 : Nat) (ce : Cell) (H : Heap) (locs : List Loc) (ls : Array Slot), px E0 u → va_P D vwCl (outx u) H → va_D A (outx u) → va_S A s.heap H locs → lv_has ls nL lv → H[q9]? = some ce → ce.vm = .none → s.vm.findClass E0 = some ce.cls → vx_W p l e R s m args below meth c H locs (cells + mc) (slots + ms) Q (F0 m pc ls rest) q9) (k : ∀ (u : S), post u → zW p l e R s m args below meth c D A Q nL (out u) (cells + mc) (slots + ms) (pc + 3) lv (rest)) : zW p l e R s m args below meth c D A Q nL ws cells slots pc lv st := fun H locs ls hP hD hS hl => vx_callv (vx_runS (As := As) (rest := rest) ⟨E.hx, E.hb, E.hml, E.hown, E.hts⟩ (hM H.size) (va_cwS n E.hts hg hw hmc hms hd hR) ⟨zPc.blind, zPc.start hP hD hS E.hA E.hK hZ⟩ rfl hn hl.1 hstk (lv_room hcat) d hf) hS (fun q _ h => zA.in hD hS E.hA q h) (fun q h => zA.in hD hS E.hA q h) (fun q _ h => zA.in hD hS E.hA q h) (fun E0 ce q9 u t H1 locs1 ht hvm hp hB hz1 hk1 hS1 hce hcv hcl => kx E0 u.2 q9 ce H1 locs1 ls (by rw [hB.1]; exact hp) (by rw [← ht]; exact hB.2.1) (hB.2.2.2.weaken (fun _ q _ h => zA.in hD hS E.hA q.1 h)) hS1 hl hce hcv hcl) (fun u t H1 locs1 ht hvm hp hB hz1 hk1 hS1 => k u hp H1 locs1 ls (by rw [← ht]; exact hB.1) (hB.2.2.weaken (fun _ q _ h => zA.in hD hS E.hA q.1 h)) hS1 hl)
theorem z_callSvN (E : zE p s m args c D tys A nL cc own Ts) (hZ : zSK A s s.heap) {y : MethodName} {wl wl' : List Cond} {rm : Room} {bytes : ByteArray} {maxL mc ms n index : Nat} {ret : Option FieldType} {As st : List Value} {S : Type} {post : S → Prop} {out : S → va_W} {SX : Type} {px : String → SX → Prop} {outx : SX → va_W} (hM : zXv l y wl rm D tys (As) ws post out px outx mc ms) (hg : GoodIn Ts (va_wsS own index y wl)) (hw : wl = Cond.code y bytes maxL ret :: wl') (hmc : rm.cells = mc) (hms : rm.slots = ms) (hd : y.cls ≠ "java/lang/invoke/MethodHandle" ∧ y.cls ≠ "java/lang/invoke/VarHandle" ∧ (parseMethodDescriptor y.desc).map (fun d => d.parameters.length) = some n) (hn : As.length = n) (hR : rm.frames + 1 ≤ R.frames ∧ 8 + (maxL + 11) + rm.locals ≤ R.locals)  (hstk : st = As.reverse ++ rest) (hcat : (rest.map fun v => v.category).sum ≤ 8) (hf : cells + mc ≤ R.cells ∧ slots + ms ≤ R.slots) (d : decode cc pc = .ok (.invokestatic index, 3)) (hno : ∀ (E0 : String) (u : SX), ¬ px E0 u) (k : ∀ (u : S), post u → zW p l e R s m args below meth c D A Q nL (out u) (cells + mc) (slots + ms) (pc + 3) lv (rest)) : zW p l e R s m args below meth c D A Q nL ws cells slots pc lv st := z_callSvX E hZ hM hg hw hmc hms hd hn hR hstk hcat hf d (fun E0 u _ _ _ _ _ hp => absurd hp (hno E0 u)) k
theorem zx_out {Qc : Array Value → State → Outcome → State → Prop} {SY : Type} {py : String → SY → Prop} {outy : SY → va_W} {mc ms : Nat} (E : zE p s m args c D tys A nL cc own Ts) (htb : ∀ x ∈ c.exceptionTable.toList, False) (hlocks : meth.locks = false) {E0 : String} {q9 : Nat} {ce : Cell} {H : Heap} {locs : List Loc} {ls : Array Slot} (uy : SY) (hpy : py E0 uy) (hP : va_P D vwCl (outy uy) H) (hD : va_D A (outy uy)) (hS : va_S A s.heap H locs) (h1 : H[q9]? = some ce) (h2 : ce.vm = .none) (h3 : s.vm.findClass E0 = some ce.cls) (hc : cells ≤ mc) (hs : slots ≤ ms) :
    vx_W p l e R s m args below meth c H locs cells slots (vx_MQ below Qc (vx_X (fun u : String × SY => py u.1 u.2) (fun E1 u t => E1 = u.1 ∧ zB D tys A (outy u.2) t) A) args s mc ms A) (F0 m pc ls rest) q9 :=
  vx_out (fun x hx => (htb x hx).elim) hlocks h1 h2 h3 (fun t ht hvm => ⟨(E0, uy), hpy, ⟨rfl, by rw [ht]; exact hP, E.hK.moved hvm, hD⟩, hS.F ht⟩) hS.2.2 hc hs
/-- where two ways meet: told once -/
theorem z_join {pc2 : Nat} {lv2 : Int32 → List (Nat × Value)} {st2 : Int32 → List Value} {c2 s2 : Nat} (P : Int32 → Prop) (hJ : ∀ v : Int32, P v → zW p l e R s m args below meth c D A Q nL ws c2 s2 pc2 (lv2 v) (st2 v)) (k : (∀ v : Int32, P v → zW p l e R s m args below meth c D A Q nL ws c2 s2 pc2 (lv2 v) (st2 v)) → zW p l e R s m args below meth c D A Q nL ws cells slots pc lv rest) : zW p l e R s m args below meth c D A Q nL ws cells slots pc lv rest := k hJ
theorem z_getsN (E : zE p s m args c D tys A nL cc own Ts) {C n0 d0 host : String} {v : Value} {index : Nat} (hZ : va_Z C n0 d0 v A s s.heap) (hlink : va_Nw (.fieldLinkNest own index C n0 d0 host) s) (d : decode cc pc = .ok (.getstatic index, 3)) (k : zW p l e R s m args below meth c D A Q nL ws cells slots (pc + 3) lv (v :: rest)) : zW p l e R s m args below meth c D A Q nL ws cells slots pc lv rest := fun H locs ls hP hD hS hl => va_getsN E.hx E.hb hZ hS E.hown (va_Nw.use rfl hlink) (fun _ h => h) d (k H locs ls hP hD hS hl)
/-- a loop, by a number that falls -/
theorem z_loop {σ : Type} (I : Nat → σ → Prop) (wsf : σ → va_W) (lvf : σ → List (Nat × Value)) (pc2 c2 s2 : Nat)
    (step : ∀ (n : Nat) (x : σ), I n x → (∀ (n' : Nat) (y : σ), n' < n → I n' y → zW p l e R s m args below meth c D A Q nL (wsf y) c2 s2 pc2 (lvf y) []) → zW p l e R s m args below meth c D A Q nL (wsf x) c2 s2 pc2 (lvf x) [])
    (n0 : Nat) (x0 : σ) (h0 : I n0 x0) (hw : ws = wsf x0) (hlv : lv = lvf x0) (hpc : pc = pc2) (hc : cells = c2) (hs : slots = s2) : zW p l e R s m args below meth c D A Q nL ws cells slots pc lv [] := by
  subst hw; subst hlv; subst hpc; subst hc; subst hs
  have key : ∀ (N n : Nat) (x : σ), n < N → I n x → zW p l e R s m args below meth c D A Q nL (wsf x) cells slots pc (lvf x) [] := by
    intro N
    induction N with
    | zero => intro n x h; exact absurd h (Nat.not_lt_zero n)
    | succ N ih => intro n x h hI; exact step n x hI (fun n' y hn hy => ih n' y (Nat.lt_of_lt_of_le hn (Nat.le_of_lt_succ h)) hy)
  exact key (n0 + 1) n0 x0 (Nat.lt_succ_self n0) h0
theorem z_tableD (E : zE p s m args c D tys A nL cc own Ts) {dflt lo hi : Int} {offs : Array Int} {len : Nat} {x : Int32} {tgt : Nat} (d : decode cc pc = .ok (.tableswitch dflt lo hi offs, len)) (h : x.toInt < lo ∨ hi < x.toInt ∨ (¬ x.toInt < lo ∧ ¬ hi < x.toInt ∧ offs[(x.toInt - lo).toNat]? = some dflt)) (ht : (pc : Int) + dflt = (tgt : Int)) (k : zW p l e R s m args below meth c D A Q nL ws cells slots tgt lv rest) : zW p l e R s m args below meth c D A Q nL ws cells slots pc lv (.int x :: rest) := by
  rcases h with h | h | ⟨h1, h2, h3⟩
  · exact z_tableOut E d (Or.inl h) ht k
  · exact z_tableOut E d (Or.inr h) ht k
  · exact z_tableIn E d h1 h2 h3 ht k
theorem zne {x k : Int32} {n : Int} (hk : k.toInt = n) (h : ¬ x = k) : x.toInt ≠ n := fun z => h (Int32.toInt_inj.mp (z.trans hk.symm))
end ZC
end
section
/-! the class's memory: cell i holds the ints mem i k; its cells lie at ad 0 .. ad 106 -/
abbrev zM : Type := Nat → Nat → Int32
def mset (mem : zM) (i k : Nat) (v : Int32) : zM := fun a b => if a = i ∧ b = k then v else mem a b
theorem mset_self (mem : zM) (i k : Nat) (v : Int32) : mset mem i k v i = upd (mem i) k v := by
  funext b
  by_cases h : b = k <;> simp [mset, upd, h]
theorem mset_ne (mem : zM) {i a : Nat} (k : Nat) (v : Int32) (h : a ≠ i) : mset mem i k v a = mem a := by
  funext b
  simp [mset, h]
theorem mset_at (mem : zM) (i k : Nat) (v : Int32) : mset mem i k v i k = v := by simp [mset]
theorem mset_ne2 (mem : zM) {i k b : Nat} (v : Int32) (h : b ≠ k) : mset mem i k v i b = mem i b := by simp [mset, h]
theorem mset_same {mem : zM} {i k : Nat} {v : Int32} (h : mem i k = v) : mset mem i k v = mem := by
  funext a b
  by_cases q : a = i ∧ b = k
  · obtain ⟨rfl, rfl⟩ := q
    simp [mset, h]
  · simp [mset, q]
theorem mset_over (mem : zM) (i k : Nat) (v w : Int32) : mset (mset mem i k v) i k w = mset mem i k w := by
  funext a b
  by_cases q : a = i ∧ b = k <;> simp [mset, q]
/-- what the cell i is, with the row r of its ints -/
def cRow (ad : Nat → Nat) (cI cR cS : ClassId) (i : Nat) (r : Nat → Int32) : va_E :=
  if i < 87 then
    if i % 3 = 0 then .inr (2, [.int (r 0), .int (r 1), .int (r 2), .int (r 3), .int (r 4), .int (r 5), .int (r 6), .int (r 7), .ref (ad (i + 1)), .ref (ad (i + 2))])
    else .inl (cI, 3, .inl r)
  else if i < 94 then .inr (3, [.ref (ad (i + 7)), .int (r 1), .int (r 2)])
  else if i < 101 then .inl (cR, 4, .inr (.inr (.inr (.inr (fun k => some (ad (3 * (4 * (i - 94) + k))))))))
  else if i = 101 then .inr (0, [.ref (ad 102), .int (r 1), .int (r 2)])
  else if i = 102 then .inl (cS, 6, .inr (.inr (.inr (.inr (fun k => some (ad (88 + k)))))))
  else if i = 103 then .inr (4, [.ref (ad 104), .int (r 1), .int (r 2), .ref (ad 105)])
  else if i = 104 then .inl (cI, 60, .inl r)
  else if i = 105 then .inr (1, [.int (r 0), .int (r 1), .int (r 2), .int (r 3), .int (r 4), .int (r 5)])
  else .inr (5, [.ref (ad 87), .ref (ad 101), .ref (ad 103), .ref (ad 84)])
def cw (ad : Nat → Nat) (cI cR cS : ClassId) (mem : zM) : va_W := (List.range 107).map (fun i => (ad i, cRow ad cI cR cS i (mem i)))
/-- the kinds of arrays that are used -/
abbrev cK (cI cR cS cL : ClassId) : List (ClassId × FieldType) := [(cI, .int), (cR, .object "LadderClimb$Rig"), (cS, .object "LadderClimb$Site"), (cL, .long)]
section ZM
variable {ad : Nat → Nat} {cI cR cS : ClassId} {mem : zM}
theorem cw_at {i : Nat} (hi : i < 107) : (cw ad cI cR cS mem)[i]? = some (ad i, cRow ad cI cR cS i (mem i)) := by
  simp [cw, hi]
theorem cw_len : (cw ad cI cR cS mem).length = 107 := by simp [cw]
theorem cw_set {i : Nat} (hi : i < 107) {mem' : zM} {x : va_E} (he : cRow ad cI cR cS i (mem' i) = x) (ho : ∀ k, k ≠ i → mem' k = mem k) : (cw ad cI cR cS mem).set i (ad i, x) = cw ad cI cR cS mem' := by
  apply List.ext_getElem?
  intro k
  by_cases hk : k = i
  · subst hk
    rw [List.getElem?_set_self (by rw [cw_len]; exact hi), cw_at hi, he]
  · rw [List.getElem?_set_ne (fun h => hk h.symm)]
    by_cases hl : k < 107
    · rw [cw_at hl, cw_at hl, ho k hk]
    · rw [List.getElem?_eq_none (by rw [cw_len]; omega), List.getElem?_eq_none (by rw [cw_len]; omega)]
theorem cw_rig {j : Nat} (hj : j < 29) : (cw ad cI cR cS mem)[3 * j]? = some (ad (3 * j), .inr (2, [.int (mem (3 * j) 0), .int (mem (3 * j) 1), .int (mem (3 * j) 2), .int (mem (3 * j) 3), .int (mem (3 * j) 4), .int (mem (3 * j) 5), .int (mem (3 * j) 6), .int (mem (3 * j) 7), .ref (ad (3 * j + 1)), .ref (ad (3 * j + 2))])) := by
  rw [cw_at (by omega)]
  simp [cRow, show 3 * j < 87 by omega]
theorem cw_wt {j : Nat} (hj : j < 29) : (cw ad cI cR cS mem)[3 * j + 1]? = some (ad (3 * j + 1), .inl (cI, 3, .inl (mem (3 * j + 1)))) := by
  rw [cw_at (by omega)]
  simp [cRow, show 3 * j + 1 < 87 by omega, show (3 * j + 1) % 3 ≠ 0 by omega]
theorem cw_st {j : Nat} (hj : j < 29) : (cw ad cI cR cS mem)[3 * j + 2]? = some (ad (3 * j + 2), .inl (cI, 3, .inl (mem (3 * j + 2)))) := by
  rw [cw_at (by omega)]
  simp [cRow, show 3 * j + 2 < 87 by omega, show (3 * j + 2) % 3 ≠ 0 by omega]
theorem cw_site {t : Nat} (ht : t < 7) : (cw ad cI cR cS mem)[87 + t]? = some (ad (87 + t), .inr (3, [.ref (ad (94 + t)), .int (mem (87 + t) 1), .int (mem (87 + t) 2)])) := by
  rw [cw_at (by omega)]
  simp [cRow, show ¬ 87 + t < 87 by omega, show 87 + t < 94 by omega, show 87 + t + 7 = 94 + t by omega]
theorem cw_rigs {t : Nat} (ht : t < 7) : (cw ad cI cR cS mem)[94 + t]? = some (ad (94 + t), .inl (cR, 4, .inr (.inr (.inr (.inr (fun k => some (ad (3 * (4 * t + k))))))))) := by
  rw [cw_at (by omega)]
  simp [cRow, show ¬ 94 + t < 87 by omega, show ¬ 94 + t < 94 by omega, show 94 + t < 101 by omega, show 94 + t - 94 = t by omega]
theorem cw_hist : (cw ad cI cR cS mem)[101]? = some (ad 101, .inr (0, [.ref (ad 102), .int (mem 101 1), .int (mem 101 2)])) := by
  rw [cw_at (by omega)]; simp [cRow]
theorem cw_saved : (cw ad cI cR cS mem)[102]? = some (ad 102, .inl (cS, 6, .inr (.inr (.inr (.inr (fun k => some (ad (88 + k)))))))) := by
  rw [cw_at (by omega)]; simp [cRow]
theorem cw_works : (cw ad cI cR cS mem)[103]? = some (ad 103, .inr (4, [.ref (ad 104), .int (mem 103 1), .int (mem 103 2), .ref (ad 105)])) := by
  rw [cw_at (by omega)]; simp [cRow]
theorem cw_codes : (cw ad cI cR cS mem)[104]? = some (ad 104, .inl (cI, 60, .inl (mem 104))) := by
  rw [cw_at (by omega)]; simp [cRow]
theorem cw_read : (cw ad cI cR cS mem)[105]? = some (ad 105, .inr (1, [.int (mem 105 0), .int (mem 105 1), .int (mem 105 2), .int (mem 105 3), .int (mem 105 4), .int (mem 105 5)])) := by
  rw [cw_at (by omega)]; simp [cRow]
theorem cw_lad : (cw ad cI cR cS mem)[106]? = some (ad 106, .inr (5, [.ref (ad 87), .ref (ad 101), .ref (ad 103), .ref (ad 84)])) := by
  rw [cw_at (by omega)]; simp [cRow]
/-- a store into a field, into a row -/
theorem cs_rig {j : Nat} (hj : j < 29) (k : Nat) (hk : k < 8) {v : Int32} {x : va_E} (hx : x = .inr (2, [.int (mem (3 * j) 0), .int (mem (3 * j) 1), .int (mem (3 * j) 2), .int (mem (3 * j) 3), .int (mem (3 * j) 4), .int (mem (3 * j) 5), .int (mem (3 * j) 6), .int (mem (3 * j) 7), .ref (ad (3 * j + 1)), .ref (ad (3 * j + 2))].set k (.int v))) : (cw ad cI cR cS mem).set (3 * j) (ad (3 * j), x) = cw ad cI cR cS (mset mem (3 * j) k v) := by
  refine cw_set (by omega) ?_ (fun a ha => mset_ne mem k v ha)
  rw [hx, mset_self]
  rcases (show k = 0 ∨ k = 1 ∨ k = 2 ∨ k = 3 ∨ k = 4 ∨ k = 5 ∨ k = 6 ∨ k = 7 by omega) with h | h | h | h | h | h | h | h <;> subst h <;> simp [cRow, upd, show 3 * j < 87 by omega]
theorem cs_wt {j : Nat} (hj : j < 29) (n : Nat) (v : Int32) : (cw ad cI cR cS mem).set (3 * j + 1) (ad (3 * j + 1), .inl (cI, 3, .inl (upd (mem (3 * j + 1)) n v))) = cw ad cI cR cS (mset mem (3 * j + 1) n v) := by
  refine cw_set (by omega) ?_ (fun a ha => mset_ne mem n v ha)
  rw [mset_self]
  simp [cRow, show 3 * j + 1 < 87 by omega, show (3 * j + 1) % 3 ≠ 0 by omega]
theorem cs_st {j : Nat} (hj : j < 29) (n : Nat) (v : Int32) : (cw ad cI cR cS mem).set (3 * j + 2) (ad (3 * j + 2), .inl (cI, 3, .inl (upd (mem (3 * j + 2)) n v))) = cw ad cI cR cS (mset mem (3 * j + 2) n v) := by
  refine cw_set (by omega) ?_ (fun a ha => mset_ne mem n v ha)
  rw [mset_self]
  simp [cRow, show 3 * j + 2 < 87 by omega, show (3 * j + 2) % 3 ≠ 0 by omega]
theorem cs_site {t : Nat} (ht : t < 7) (k : Nat) (hk0 : 1 ≤ k) (hk : k < 3) {v : Int32} {x : va_E} (hx : x = .inr (3, [.ref (ad (94 + t)), .int (mem (87 + t) 1), .int (mem (87 + t) 2)].set k (.int v))) : (cw ad cI cR cS mem).set (87 + t) (ad (87 + t), x) = cw ad cI cR cS (mset mem (87 + t) k v) := by
  refine cw_set (by omega) ?_ (fun a ha => mset_ne mem k v ha)
  rw [hx, mset_self]
  rcases (show k = 1 ∨ k = 2 by omega) with h | h <;> subst h <;> simp [cRow, upd, show ¬ 87 + t < 87 by omega, show 87 + t < 94 by omega, show 87 + t + 7 = 94 + t by omega]
theorem cs_hist (k : Nat) (hk0 : 1 ≤ k) (hk : k < 3) {v : Int32} {x : va_E} (hx : x = .inr (0, [.ref (ad 102), .int (mem 101 1), .int (mem 101 2)].set k (.int v))) : (cw ad cI cR cS mem).set 101 (ad 101, x) = cw ad cI cR cS (mset mem 101 k v) := by
  refine cw_set (by omega) ?_ (fun a ha => mset_ne mem k v ha)
  rw [hx, mset_self]
  rcases (show k = 1 ∨ k = 2 by omega) with h | h <;> subst h <;> simp [cRow, upd]
theorem cs_works (k : Nat) (hk0 : 1 ≤ k) (hk : k < 3) {v : Int32} {x : va_E} (hx : x = .inr (4, [.ref (ad 104), .int (mem 103 1), .int (mem 103 2), .ref (ad 105)].set k (.int v))) : (cw ad cI cR cS mem).set 103 (ad 103, x) = cw ad cI cR cS (mset mem 103 k v) := by
  refine cw_set (by omega) ?_ (fun a ha => mset_ne mem k v ha)
  rw [hx, mset_self]
  rcases (show k = 1 ∨ k = 2 by omega) with h | h <;> subst h <;> simp [cRow, upd]
theorem cs_codes (n : Nat) (v : Int32) : (cw ad cI cR cS mem).set 104 (ad 104, .inl (cI, 60, .inl (upd (mem 104) n v))) = cw ad cI cR cS (mset mem 104 n v) := by
  refine cw_set (by omega) ?_ (fun a ha => mset_ne mem n v ha)
  rw [mset_self]
  simp [cRow]
theorem cs_read (k : Nat) (hk : k < 6) {v : Int32} {x : va_E} (hx : x = .inr (1, [.int (mem 105 0), .int (mem 105 1), .int (mem 105 2), .int (mem 105 3), .int (mem 105 4), .int (mem 105 5)].set k (.int v))) : (cw ad cI cR cS mem).set 105 (ad 105, x) = cw ad cI cR cS (mset mem 105 k v) := by
  refine cw_set (by omega) ?_ (fun a ha => mset_ne mem k v ha)
  rw [hx, mset_self]
  rcases (show k = 0 ∨ k = 1 ∨ k = 2 ∨ k = 3 ∨ k = 4 ∨ k = 5 by omega) with h | h | h | h | h | h <;> subst h <;> simp [cRow, upd]
end ZM
/-- the numbers of the rig j: 0 to 7 its fields, 8 to 10 the weights, 11 to 13 the steps -/
def rv (mem : zM) (j : Nat) : Nat → Int32 := fun k => if k < 8 then mem (3 * j) k else if k < 11 then mem (3 * j + 1) (k - 8) else if k < 14 then mem (3 * j + 2) (k - 11) else 0
/-- a name for the memory -/
theorem z_gm {p : Program} {l : Launch} {e : Env} {R : Room} {s : State} {m : MethodId} {args : Array Value} {below : List Frame} {meth : Method} {c : Code} {D : va_G} {A : Nat → Prop} {Q : State → Prop} {nL : Nat} {cells slots pc : Nat} {lv : List (Nat × Value)} {st : List Value} {ad : Nat → Nat} {cI cR cS : ClassId} {mem : zM} (k : ∀ m' : zM, m' = mem → zW p l e R s m args below meth c D A Q nL (cw ad cI cR cS m') cells slots pc lv st) : zW p l e R s m args below meth c D A Q nL (cw ad cI cR cS mem) cells slots pc lv st := k mem rfl
end
