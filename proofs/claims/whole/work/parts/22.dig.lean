/-! the share of people, its bits -/
section ZD
variable {p : Program} {l : Launch} {e : Env} {R : Room} {s : State} {m : MethodId} {args : Array Value} {below : List Frame} {meth : Method} {c : Code} {D : va_G} {tys : List (ClassId × FieldType)} {A : Nat → Prop} {Q : State → Prop} {nL : Nat} {ws : va_W} {cells slots pc : Nat} {lv : List (Nat × Value)} {rest : List Value} {cc : ByteArray} {own : String} {Ts : List Cond}
theorem z_dconst0 (E : zE p s m args c D tys A nL cc own Ts) (d : decode cc pc = .ok (.dconst 0, 1)) (k : zW p l e R s m args below meth c D A Q nL ws cells slots (pc + 1) lv (.double 0 :: rest)) : zW p l e R s m args below meth c D A Q nL ws cells slots pc lv (rest) := fun H locs ls hP hD hS hl => lv_dconst0 E.hx E.hb d (k H locs ls hP hD hS hl)
theorem z_dconst1 (E : zE p s m args c D tys A nL cc own Ts) (d : decode cc pc = .ok (.dconst 1, 1)) (k : zW p l e R s m args below meth c D A Q nL ws cells slots (pc + 1) lv (.double 4607182418800017408 :: rest)) : zW p l e R s m args below meth c D A Q nL ws cells slots pc lv (rest) := fun H locs ls hP hD hS hl => lv_dconst1 E.hx E.hb d (k H locs ls hP hD hS hl)
end ZD
def zBitsR (v : UInt64) (r : Int64) : Prop := (v = 0 ∧ r = 0) ∨ ∃ (c n : Nat), zN v c (-52 - (n : Int)) ∧ n ≤ 108 ∧ r = zBits n v
theorem zN_not0 {c : Nat} {q : Int} (h : zN 0 c q) : False := by
  obtain ⟨-, -, -, -, h⟩ := h
  have e : (0 : UInt64).toNat = 0 := by decide
  rw [e] at h
  omega
theorem zBitsR_unique {v : UInt64} {r r' : Int64} (h : zBitsR v r) (h' : zBitsR v r') : r = r' := by
  rcases h with ⟨e, e2⟩ | ⟨c, n, hN, hn, e2⟩
  · rcases h' with ⟨_, e3⟩ | ⟨c, n, hN, _, _⟩
    · rw [e2, e3]
    · rw [e] at hN; exact (zN_not0 hN).elim
  · rcases h' with ⟨e, _⟩ | ⟨c', n', hN', hn', e3⟩
    · rw [e] at hN; exact (zN_not0 hN).elim
    · obtain ⟨a1, a2, _, _, a3⟩ := hN
      obtain ⟨b1, b2, _, _, b3⟩ := hN'
      have : n = n' := by omega
      rw [e2, e3, this]
def fSafe (mem : zM) : UInt64 := if fPeople mem 0 + mem 87 1 = 0 then 4607182418800017408 else FP.ddiv (FP.i2d (fPeople mem 0)) (FP.i2d (fPeople mem 0 + mem 87 1))
set_option maxHeartbeats 1000000 in
set_option maxRecDepth 100000 in
theorem k_mix (l : Launch) (D : va_G) (ad : Nat → Nat) (cI cR cS cL : ClassId) (mem : zM) (a b : Int64) : zMl l yX5_mix wsX5_mix ({ frames := 0, cells := 0, slots := 0, locals := 0 }) D (cK cI cR cS cL) [.long a, .long b] (cw ad cI cR cS mem) (fun r u => r = 31 * a + b ∧ u = mem) (cw ad cI cR cS) 0 0 := by
  refine zMlM.of (cc := cX5_mix) (maxL := 4) (ret := (some .long)) (by decide +kernel) rfl (lv0 := [(0, .long a), (2, .long b)]) (Nat.le_of_ble_eq_true rfl) rfl ?_
  intro p e s m args below meth c E hZ hr hlocks hnm
  refine z_ldc2 (v := 31) E dX5_mix_0 (List.mem_of_getElem? (i := 1) (by decide +kernel)) ?_
  refine z_lload_n E dX5_mix_3 rfl 0 rfl ?_
  refine z_lmul E dX5_mix_4 ?_
  refine z_lload_n E dX5_mix_5 rfl 1 rfl ?_
  refine z_ladd E dX5_mix_6 ?_
  exact z_lretM E hr hlocks (mem) rfl ⟨rfl, rfl⟩ (Nat.le_of_ble_eq_true rfl) (Nat.le_of_ble_eq_true rfl) dX5_mix_7
set_option maxHeartbeats 1000000 in
set_option maxRecDepth 100000 in
theorem k_bits0 (l : Launch) (D : va_G) (ad : Nat → Nat) (cI cR cS cL : ClassId) (mem : zM)  : zMl l yX5_bitsOf wsX5_bitsOf ({ frames := 0, cells := 0, slots := 0, locals := 0 }) D (cK cI cR cS cL) [.double 0] (cw ad cI cR cS mem) (fun r u => r = 0 ∧ u = mem) (cw ad cI cR cS) 0 0 := by
  refine zMlM.of (cc := cX5_bitsOf) (maxL := 8) (ret := (some .long)) (by decide +kernel) rfl (lv0 := [(0, .double 0)]) (Nat.le_of_ble_eq_true rfl) rfl ?_
  intro p e s m args below meth c E hZ hr hlocks hnm
  refine z_dload_n E dX5_bitsOf_0 rfl 0 rfl ?_
  refine z_dconst0 E dX5_bitsOf_1 ?_
  refine z_dcmp E dX5_bitsOf_2 ?_
  refine z_eq (ws' := cw ad cI cR cS mem) (lv' := [(0, .double 0)]) (st' := [.int 0]) rfl rfl (by rw [zq_cmp00]; rfl) ?_
  refine z_if_gt_f (tgt := 8) E dX5_bitsOf_3 (by decide) (by decide) ?_
  refine z_lconst (v := 0) E dX5_bitsOf_6 (by decide) ?_
  exact z_lretM E hr hlocks (mem) rfl ⟨rfl, rfl⟩ (Nat.le_of_ble_eq_true rfl) (Nat.le_of_ble_eq_true rfl) dX5_bitsOf_7
set_option maxHeartbeats 1000000 in
set_option maxRecDepth 100000 in
theorem k_bitsN (l : Launch) (D : va_G) (ad : Nat → Nat) (cI cR cS cL : ClassId) (mem : zM) {v : UInt64} {n c : Nat} (hn : n ≤ 108) (hv : zN v c (-52 - (n : Int))) : zMl l yX5_bitsOf wsX5_bitsOf ({ frames := 0, cells := 0, slots := 0, locals := 0 }) D (cK cI cR cS cL) [.double v] (cw ad cI cR cS mem) (fun r u => r = zBits n v ∧ u = mem) (cw ad cI cR cS) 0 0 := by
  refine zMlM.of (cc := cX5_bitsOf) (maxL := 8) (ret := (some .long)) (by decide +kernel) rfl (lv0 := [(0, .double v)]) (Nat.le_of_ble_eq_true rfl) rfl ?_
  intro p e s m args below meth c E hZ hr hlocks hnm
  refine z_dload_n E dX5_bitsOf_0 rfl 0 rfl ?_
  refine z_dconst0 E dX5_bitsOf_1 ?_
  refine z_dcmp E dX5_bitsOf_2 ?_
  refine z_eq (ws' := cw ad cI cR cS mem) (lv' := [(0, .double v)]) (st' := [.int 1]) rfl rfl (by rw [zq_cmp0 hv]; rfl) ?_
  refine z_if_gt_t (tgt := 8) E dX5_bitsOf_3 (by decide) (by decide) ?_
  refine z_dload_n E dX5_bitsOf_8 rfl 0 rfl ?_
  refine z_dstore_n (lv' := [(2, .double v), (0, .double v)]) E dX5_bitsOf_9 rfl (by decide) rfl ?_
  refine z_ldc2 (v := 1023) E dX5_bitsOf_10 (List.mem_of_getElem? (i := 1) (by decide +kernel)) ?_
  refine z_lstore (lv' := [(4, .long 1023), (2, .double v), (0, .double v)]) E dX5_bitsOf_13 (by decide) rfl ?_
  refine z_iconst (v := 0) E dX5_bitsOf_15 (by decide) ?_
  refine z_istore (lv' := [(6, .int 0), (4, .long 1023), (2, .double v), (0, .double v)]) E dX5_bitsOf_16 (by decide) rfl ?_
  refine z_loop (σ := UInt64 × Nat) (fun n1 y => y.2 + n1 = n ∧ (∃ c, zN y.1 c (-52 - (n1 : Int))) ∧ zDbl n1 y.1 = zDbl n v) (fun _ => cw ad cI cR cS mem) (fun y => [(6, .int (nI y.2)), (4, .long (Int64.ofNat (1023 - y.2))), (2, .double y.1), (0, .double v)]) 18 0 0 ?_ n (v, 0) ⟨Nat.zero_add _, ⟨_, hv⟩, rfl⟩ rfl rfl rfl rfl rfl
  rintro n1 ⟨x, i⟩ ⟨hin, ⟨c0, hx⟩, hd⟩ ih
  dsimp only at hin hx hd ⊢
  rcases n1 with _ | n1
  · skip
    refine z_iload E dX5_bitsOf_18 0 rfl ?_
    refine z_sipush (v := 1022) E dX5_bitsOf_20 (by decide) ?_
    refine z_icmp_ge_f (tgt := 50) E dX5_bitsOf_23 (by decide) (fun h => by have := (nI_leI (a := 1022) (b := i) (by omega) (by omega)).mp h; omega) ?_
    refine z_dload_n E dX5_bitsOf_26 rfl 2 rfl ?_
    refine z_dconst1 E dX5_bitsOf_27 ?_
    refine z_dcmp E dX5_bitsOf_28 ?_
    refine z_if_ge_t (tgt := 50) E dX5_bitsOf_29 (by decide) (show 0 ≤ Op.cmpValue (FP.dcmp x 4607182418800017408) .g by rcases zq_cmp1' (c := c0) (by simpa using hx) with q | q <;> rw [q] <;> decide) ?_
    refine z_dload_n E dX5_bitsOf_50 rfl 2 rfl ?_
    refine z_dconst1 E dX5_bitsOf_51 ?_
    refine z_dsub E dX5_bitsOf_52 (zN.n64' (zq_tail (c := c0) (by simpa using hx)).1) ?_
    refine z_ldc2d (v := 4841369599423283200) E dX5_bitsOf_53 (List.mem_of_getElem? (i := 3) (by decide +kernel)) ?_
    refine z_dmul E dX5_bitsOf_56 (zN.n64' (zq_tail (c := c0) (by simpa using hx)).2) ?_
    refine z_d2l E dX5_bitsOf_57 ?_
    refine z_lstore (lv' := [(6, .long (FP.d2l (FP.dmul (FP.dsub x 4607182418800017408) 4841369599423283200))), (4, .long (Int64.ofNat (1023 - i))), (2, .double x), (0, .double v)]) E dX5_bitsOf_58 (by decide) rfl ?_
    refine z_lload E dX5_bitsOf_60 1 rfl ?_
    refine z_bipush (v := 52) E dX5_bitsOf_62 (by decide) ?_
    refine z_lshl (v := (Int64.ofNat (1023 - i)) <<< ((52 : Int32).toInt64 &&& 63)) E dX5_bitsOf_64 rfl ?_
    refine z_lload E dX5_bitsOf_65 0 rfl ?_
    refine z_ladd E dX5_bitsOf_67 ?_
    exact z_lretM E hr hlocks (mem) rfl ⟨by rw [zShl i (by omega)]; unfold zBits; rw [← hd, show i = n by omega]; rfl, rfl⟩ (Nat.le_of_ble_eq_true rfl) (Nat.le_of_ble_eq_true rfl) dX5_bitsOf_68
  · skip
    refine z_iload E dX5_bitsOf_18 0 rfl ?_
    refine z_sipush (v := 1022) E dX5_bitsOf_20 (by decide) ?_
    refine z_icmp_ge_f (tgt := 50) E dX5_bitsOf_23 (by decide) (fun h => by have := (nI_leI (a := 1022) (b := i) (by omega) (by omega)).mp h; omega) ?_
    refine z_dload_n E dX5_bitsOf_26 rfl 2 rfl ?_
    refine z_dconst1 E dX5_bitsOf_27 ?_
    refine z_dcmp E dX5_bitsOf_28 ?_
    refine z_if_ge_f (tgt := 50) E dX5_bitsOf_29 (by decide) (show ¬ 0 ≤ Op.cmpValue (FP.dcmp x 4607182418800017408) .g by rw [zq_cmp1 hx (by omega) (by omega)]; decide) ?_
    refine z_dload_n E dX5_bitsOf_32 rfl 2 rfl ?_
    refine z_ldc2d (v := 4611686018427387904) E dX5_bitsOf_33 (List.mem_of_getElem? (i := 2) (by decide +kernel)) ?_
    refine z_dmul E dX5_bitsOf_36 (zq_two hx (by omega)).n64 ?_
    refine z_dstore_n (lv' := [(2, .double (FP.dmul x 4611686018427387904)), (6, .int (nI i)), (4, .long (Int64.ofNat (1023 - i))), (0, .double v)]) E dX5_bitsOf_37 rfl (by decide) rfl ?_
    refine z_lload E dX5_bitsOf_38 2 rfl ?_
    refine z_lconst (v := 1) E dX5_bitsOf_40 (by decide) ?_
    refine z_lsub E dX5_bitsOf_41 ?_
    refine z_lstore (lv' := [(4, .long ((Int64.ofNat (1023 - i)) - 1)), (2, .double (FP.dmul x 4611686018427387904)), (6, .int (nI i)), (0, .double v)]) E dX5_bitsOf_42 (by decide) rfl ?_
    refine z_iinc (v := nI i + 1) (lv' := [(6, .int (nI i + 1)), (4, .long ((Int64.ofNat (1023 - i)) - 1)), (2, .double (FP.dmul x 4611686018427387904)), (0, .double v)]) E dX5_bitsOf_44 (q := 2) rfl rfl (by decide) rfl ?_
    refine z_goto (tgt := 18) E dX5_bitsOf_47 (by decide) ?_
    refine z_eq (ws' := cw ad cI cR cS mem) (lv' := [(6, .int (nI (i + 1))), (4, .long (Int64.ofNat (1023 - (i + 1)))), (2, .double (FP.dmul x 4611686018427387904)), (0, .double v)]) (st' := []) rfl (by rw [zExp i (by omega), ← nI_1 i]) rfl ?_
    exact ih n1 (FP.dmul x 4611686018427387904, i + 1) (by omega) ⟨by show i + 1 + n1 = n; omega, ⟨c0, by show zN (FP.dmul x 4611686018427387904) c0 (-52 - (n1 : Int)); have := zq_two hx (by omega); rw [show -52 - ((n1 + 1 : Nat) : Int) + 1 = -52 - (n1 : Int) by omega] at this; exact this⟩, hd⟩
set_option maxHeartbeats 1000000 in
set_option maxRecDepth 100000 in
theorem k_safety (l : Launch) (D : va_G) (ad : Nat → Nat) (cI cR cS cL : ClassId) (mem : zM) (hnn : ¬ fPeople mem 0 + mem 87 1 = 0 → vf_n64 (FP.ddiv (FP.i2d (fPeople mem 0)) (FP.i2d (fPeople mem 0 + mem 87 1)))) : zMd l yX5_safety wsX5_safety ({ frames := 1, cells := 0, slots := 0, locals := 22 }) D (cK cI cR cS cL) [.ref (ad 106)] (cw ad cI cR cS mem) (fun r u => r = fSafe mem ∧ u = mem) (cw ad cI cR cS) 0 0 := by
  refine zMdM.of (cc := cX5_safety) (maxL := 3) (ret := (some .double)) (by decide +kernel) rfl (lv0 := [(0, .ref (ad 106))]) (Nat.le_of_ble_eq_true rfl) rfl ?_
  intro p e s m args below meth c E hZ hr hlocks hnm
  refine z_aload_n E dX5_safety_0 rfl 0 rfl ?_
  refine z_get E 106 cw_lad (C := RX5) (T := TX5) (N := 4) rfl (fun _ h => List.mem_cons_of_mem _ (List.mem_append_left _ (List.mem_append_left _ (List.mem_append_right _ h)))) 0 (by decide) (List.mem_of_getElem? (i := 1) (by decide +kernel)) rfl (v := .ref (ad (87 + 0))) rfl dX5_safety_1 ?_
  refine z_callVi E hZ (k_people l D ad cI cR cS cL mem (by omega)) gX5_safety_X3_people (n := 0) rfl rfl rfl (by decide +kernel) rfl ⟨Nat.le_of_ble_eq_true rfl, Nat.le_of_ble_eq_true rfl⟩  (C := RX3) rfl (87 + 0) (cw_site (by omega)) (As := []) (rest := []) rfl (Nat.le_of_ble_eq_true rfl) ⟨Nat.le_of_ble_eq_true rfl, Nat.le_of_ble_eq_true rfl⟩ dX5_safety_4 (fun r u hp => ?_)
  rw [hp.1, hp.2]
  refine z_istore_n (lv' := [(1, .int (fPeople mem 0)), (0, .ref (ad 106))]) E dX5_safety_7 rfl (by decide) rfl ?_
  refine z_iload_n E dX5_safety_8 rfl 0 rfl ?_
  refine z_aload_n E dX5_safety_9 rfl 1 rfl ?_
  refine z_get E 106 cw_lad (C := RX5) (T := TX5) (N := 4) rfl (fun _ h => List.mem_cons_of_mem _ (List.mem_append_left _ (List.mem_append_left _ (List.mem_append_right _ h)))) 0 (by decide) (List.mem_of_getElem? (i := 1) (by decide +kernel)) rfl (v := .ref (ad (87 + 0))) rfl dX5_safety_10 ?_
  refine z_get E (87 + 0) (cw_site (by omega)) (C := RX3) (T := TX3) (N := 3) rfl (fun _ h => List.mem_cons_of_mem _ (List.mem_append_left _ (List.mem_append_right _ h))) 1 (by decide) (List.mem_of_getElem? (i := 2) (by decide +kernel)) rfl (v := .int (mem (87 + 0) 1)) rfl dX5_safety_13 ?_
  refine z_iadd E dX5_safety_16 ?_
  refine z_istore_n (lv' := [(2, .int ((fPeople mem 0) + (mem (87 + 0) 1))), (1, .int (fPeople mem 0)), (0, .ref (ad 106))]) E dX5_safety_17 rfl (by decide) rfl ?_
  refine z_iload_n E dX5_safety_18 rfl 0 rfl ?_
  refine z_if_ne (tgt := 26) E dX5_safety_19 (by decide) (fun c19 => ?_) (fun c19 => ?_)
  · skip
    refine z_iload_n E dX5_safety_26 rfl 1 rfl ?_
    refine z_i2d E dX5_safety_27 ?_
    refine z_iload_n E dX5_safety_28 rfl 0 rfl ?_
    refine z_i2d E dX5_safety_29 ?_
    refine z_ddiv E dX5_safety_30 (hnn c19) ?_
    exact z_dretM E hr hlocks (mem) rfl ⟨(if_neg c19).symm, rfl⟩ (Nat.le_of_ble_eq_true rfl) (Nat.le_of_ble_eq_true rfl) dX5_safety_31
  · skip
    refine z_dconst1 E dX5_safety_22 ?_
    refine z_goto (tgt := 31) E dX5_safety_23 (by decide) ?_
    exact z_dretM E hr hlocks (mem) rfl ⟨(if_pos c19).symm, rfl⟩ (Nat.le_of_ble_eq_true rfl) (Nat.le_of_ble_eq_true rfl) dX5_safety_31
