/-! the share of people, its bits -/
section ZD
variable {p : Program} {l : Launch} {e : Env} {R : Room} {s : State} {m : MethodId} {args : Array Value} {below : List Frame} {meth : Method} {c : Code} {D : va_G} {tys : List (ClassId × FieldType)} {A : Nat → Prop} {Q : State → Prop} {nL : Nat} {ws : va_W} {cells slots pc : Nat} {lv : List (Nat × Value)} {rest : List Value} {cc : ByteArray} {own : String} {Ts : List Cond}
theorem z_dconst1 (E : zE p s m args c D tys A nL cc own Ts) (d : decode cc pc = .ok (.dconst 1, 1)) (k : zW p l e R s m args below meth c D A Q nL ws cells slots (pc + 1) lv (.double 4607182418800017408 :: rest)) : zW p l e R s m args below meth c D A Q nL ws cells slots pc lv (rest) := fun H locs ls hP hD hS hl => lv_dconst1 E.hx E.hb d (k H locs ls hP hD hS hl)
end ZD
def fSafe (mem : zM) : UInt64 := if fPeople mem 0 + mem 87 1 = 0 then 4607182418800017408 else FP.ddiv (FP.i2d (fPeople mem 0)) (FP.i2d (fPeople mem 0 + mem 87 1))
set_option maxHeartbeats 1000000 in
set_option maxRecDepth 100000 in
theorem k_safety (l : Launch) (D : va_G) (ad : Nat → Nat) (cI cR cS cL : ClassId) (mem : zM) (hnn : ¬ fPeople mem 0 + mem 87 1 = 0 → vf_n64 (FP.ddiv (FP.i2d (fPeople mem 0)) (FP.i2d (fPeople mem 0 + mem 87 1)))) : zMd l yX5_safety wsX5_safety ({ frames := 1, cells := 0, slots := 0, locals := 22 }) D (cK cI cR cS cL) [.ref (ad 106)] (cw ad cI cR cS mem) (fun r u => r = fSafe mem ∧ u = mem) (cw ad cI cR cS) 0 0 := by
  refine zMdM.of (cc := cX5_safety) (maxL := 3) (ret := (some .double)) (by decide +kernel) rfl (lv0 := [(0, .ref (ad 106))]) (Nat.le_of_ble_eq_true rfl) rfl ?_
  intro p e s m args below meth c E hZ hr hlocks hnm
  refine z_aload_n E dX5_safety_0 rfl 0 rfl ?_
  refine z_get E 106 cw_lad (C := RX5) (T := TX5) (N := 4) rfl (fun _ h => List.mem_cons_of_mem _ (List.mem_append_left _ (List.mem_append_left _ (List.mem_append_right _ h)))) 0 (by decide) (List.mem_of_getElem? (i := 1) (by decide +kernel)) rfl (v := .ref (ad (87 + 0))) rfl dX5_safety_1 ?_
  refine z_callVi E hZ (k_people l D ad cI cR cS cL mem (by omega)) gX5_safety_X3_people (n := 0) rfl rfl rfl (by decide +kernel) rfl ⟨Nat.le_of_ble_eq_true rfl, Nat.le_of_ble_eq_true rfl⟩  (C := RX3) rfl (87 + 0) (cw_site (by omega)) (As := []) (rest := []) rfl (Nat.le_of_ble_eq_true rfl) ⟨Nat.le_of_ble_eq_true rfl, Nat.le_of_ble_eq_true rfl⟩ dX5_safety_4 (fun r u hp => ?_)
  rw [hp.1, hp.2]
  refine z_istore_n (lv' := [(1, .int (fPeople mem 0)), (0, .ref (ad 106))]) E dX5_safety_7 rfl (by decide) rfl ?_
  refine z_iload_n E dX5_safety_8 rfl 0 rfl ?_
  refine z_aload_n E dX5_safety_9 rfl 1 rfl ?_
  refine z_get E 106 cw_lad (C := RX5) (T := TX5) (N := 4) rfl (fun _ h => List.mem_cons_of_mem _ (List.mem_append_left _ (List.mem_append_left _ (List.mem_append_right _ h)))) 0 (by decide) (List.mem_of_getElem? (i := 1) (by decide +kernel)) rfl (v := .ref (ad (87 + 0))) rfl dX5_safety_10 ?_
  refine z_get E (87 + 0) (cw_site (by omega)) (C := RX3) (T := TX3) (N := 3) rfl (fun _ h => List.mem_cons_of_mem _ (List.mem_append_left _ (List.mem_append_right _ h))) 1 (by decide) (List.mem_of_getElem? (i := 2) (by decide +kernel)) rfl (v := .int (mem (87 + 0) 1)) rfl dX5_safety_13 ?_
  refine z_iadd E dX5_safety_16 ?_
  refine z_istore_n (lv' := [(2, .int ((fPeople mem 0) + (mem (87 + 0) 1))), (1, .int (fPeople mem 0)), (0, .ref (ad 106))]) E dX5_safety_17 rfl (by decide) rfl ?_
  refine z_iload_n E dX5_safety_18 rfl 0 rfl ?_
  refine z_if_ne (tgt := 26) E dX5_safety_19 (by decide) (fun c19 => ?_) (fun c19 => ?_)
  · skip
    refine z_iload_n E dX5_safety_26 rfl 1 rfl ?_
    refine z_i2d E dX5_safety_27 ?_
    refine z_iload_n E dX5_safety_28 rfl 0 rfl ?_
    refine z_i2d E dX5_safety_29 ?_
    refine z_ddiv E dX5_safety_30 (hnn c19) ?_
    exact z_dretM E hr hlocks (mem) rfl ⟨(if_neg c19).symm, rfl⟩ (Nat.le_of_ble_eq_true rfl) (Nat.le_of_ble_eq_true rfl) dX5_safety_31
  · skip
    refine z_dconst1 E dX5_safety_22 ?_
    refine z_goto (tgt := 31) E dX5_safety_23 (by decide) ?_
    exact z_dretM E hr hlocks (mem) rfl ⟨(if_pos c19).symm, rfl⟩ (Nat.le_of_ble_eq_true rfl) (Nat.le_of_ble_eq_true rfl) dX5_safety_31
