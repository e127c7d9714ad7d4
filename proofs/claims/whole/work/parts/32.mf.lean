/-! the reference's forces -/
theorem zB01 {c : Prop} [Decidable c] : (if c then (0 : Int32) else 1) = 0 ↔ c := by
  by_cases h : c
  · rw [if_pos h]; exact ⟨fun _ => h, fun _ => rfl⟩
  · rw [if_neg h]; exact ⟨fun q => absurd q (by decide), fun q => absurd q h⟩
theorem zB10 {c : Prop} [Decidable c] : (if c then (1 : Int32) else 0) = 0 ↔ ¬ c := by
  by_cases h : c
  · rw [if_pos h]; exact ⟨fun q => absurd q (by decide), fun q => absurd h q⟩
  · rw [if_neg h]; exact ⟨fun _ => h, fun _ => rfl⟩
theorem zWsum (R : Nat → Int32) (f : Int32) : fWGW1 R f + (if fWallBad R f = true then 2 else 0) + (if f ≤ fLoad R then 0 else 4) + (if 100 * fPush R f ≤ 10 * R 1 * (fGP R * (fLoad R - f) + 100 * R 5) then 0 else 8) = fWGW R f := by
  unfold fWGW fWGW3 fWGW2 fWGW1
  by_cases a1 : 0 ≤ fPush R f <;> by_cases a2 : fWallBad R f = true <;> by_cases a3 : f ≤ fLoad R <;> by_cases a4 : 100 * fPush R f ≤ 10 * R 1 * (fGP R * (fLoad R - f) + 100 * R 5) <;> simp only [a1, a2, a3, a4, if_true, if_false, Bool.false_eq_true] <;> decide
/-- the four fields that forces sets, and nothing else -/
def zScr (mem u : zM) : Prop := (∀ a, a ≠ 0 → u a = mem a) ∧ ∀ k, k < 6 ∨ 9 < k → u 0 k = mem 0 k
theorem zScr.refl (mem : zM) : zScr mem mem := ⟨fun _ _ => rfl, fun _ _ => rfl⟩
theorem zScr.trans {a b c : zM} (h1 : zScr a b) (h2 : zScr b c) : zScr a c := ⟨fun i hi => (h2.1 i hi).trans (h1.1 i hi), fun k hk => (h2.2 k hk).trans (h1.2 k hk)⟩
theorem zScr.fld {mem u : zM} (h : zScr mem u) {k : Nat} (h1 : 6 ≤ k) (h2 : k ≤ 9) (v : Int32) : zScr mem (mset u 0 k v) := ⟨fun i hi => (mset_ne u k v hi).trans (h.1 i hi), fun j hj => (mset_ne2 u v (by omega)).trans (h.2 j hj)⟩
theorem zScr.set {mem u : zM} (h : zScr mem u) {i : Nat} (hi : i ≠ 0) (k : Nat) (v : Int32) : zScr (mset mem i k v) (mset u i k v) := ⟨fun a ha => by
  by_cases e : a = i
  · subst e; rw [mset_self, mset_self, h.1 a ha]
  · rw [mset_ne _ _ _ e, mset_ne _ _ _ e, h.1 a ha], fun j hj => by rw [mset_ne _ _ _ (Ne.symm hi), mset_ne _ _ _ (Ne.symm hi)]; exact h.2 j hj⟩
def fNear (f n : Int32) : Int32 := if f < 0 then 1 else if 0 ≤ n then 0 else if -n < f then 0 else 1
/-- what forces holds in its fields, below the force F -/
def mFP (lo hi F : Int) (m : Nat → Int32) : Prop := (m 6).toInt = max 0 (min (F - 1) hi - lo + 1) ∧ (min (F - 1) hi < lo → m 7 = 0 ∧ m 8 = 0 ∧ m 9 = 0) ∧ (lo ≤ min (F - 1) hi → (m 7).toInt = lo ∧ (m 8).toInt = min (F - 1) hi ∧ (m 9).toInt = max lo (min 0 (min (F - 1) hi)))
def mFd (R : Nat → Int32) (u : zM) : Prop := u 0 6 = fForces R ∧ (¬ fForces R = 0 → u 0 7 = fLeast R ∧ u 0 8 = fGreat R ∧ u 0 9 = fNearest R)
theorem mFP_no {lo hi F : Int} {m : Nat → Int32} (h : mFP lo hi F m) (hn : ¬ (lo ≤ F ∧ F ≤ hi)) : mFP lo hi (F + 1) m := by
  obtain ⟨h1, h2, h3⟩ := h
  unfold mFP
  by_cases q : F < lo
  · refine ⟨by rw [h1]; omega, fun _ => h2 (by omega), fun z => by omega⟩
  · have e : min (F + 1 - 1) hi = min (F - 1) hi := by omega
    rw [e]
    exact ⟨h1, h2, h3⟩
theorem mFP_yes {lo hi F : Int} {m m2 : Nat → Int32} {f : Int32} (hlo : -1000 ≤ lo) (hhi : hi ≤ 1000) (hf : f.toInt = F) (h : mFP lo hi F m) (h1 : lo ≤ F) (h2 : F ≤ hi) (e7 : m2 7 = if m 6 = 0 then f else m 7) (e9 : m2 9 = if m 6 = 0 then f else if fNear f (m 9) = 0 then m 9 else f) (e8 : m2 8 = f) (e6 : m2 6 = m 6 + 1) : mFP lo hi (F + 1) m2 := by
  obtain ⟨k1, k2, k3⟩ := h
  have z6 : (m 6 + 1).toInt = (m 6).toInt + 1 := zaI rfl (by decide) (by omega) (by omega)
  unfold mFP
  rw [e6, e8, z6, k1]
  refine ⟨by omega, fun q => by omega, fun _ => ?_⟩
  by_cases c0 : F = lo
  · have : m 6 = 0 := (zeqI k1 zc0).mpr (by omega)
    rw [if_pos this] at e7 e9
    rw [e7, e9, hf]
    exact ⟨c0, by omega, by omega⟩
  · have : ¬ m 6 = 0 := fun z => by have := (zeqI k1 zc0).mp z; omega
    rw [if_neg this] at e7 e9
    obtain ⟨k4, k5, k6⟩ := k3 (by omega)
    refine ⟨by rw [e7]; exact k4, by rw [hf]; omega, ?_⟩
    rw [e9]
    by_cases f0 : F < 0
    · have : fNear f (m 9) = 1 := if_pos ((zltI hf zc0).mpr f0)
      rw [if_neg (by rw [this]; decide), hf]; omega
    · by_cases n0 : 0 ≤ (m 9).toInt
      · have : fNear f (m 9) = 0 := (if_neg (fun q => f0 ((zltI hf zc0).mp q))).trans (if_pos ((zleI zc0 rfl).mpr n0))
        rw [if_pos this, k6]; omega
      · have hm : (-(m 9)).toInt = -(m 9).toInt := znI rfl (by omega) (by omega)
        have : fNear f (m 9) = 1 := (if_neg (fun q => f0 ((zltI hf zc0).mp q))).trans ((if_neg (fun q => n0 ((zleI zc0 rfl).mp q))).trans (if_neg (fun q => by have := (zltI hm hf).mp q; omega)))
        rw [if_neg (by rw [this]; decide), hf]; omega
theorem mFP_end {R : Nat → Int32} {lo hi : Int} {u : zM} (H : rLH R lo hi) (h : mFP lo hi 1001 (u 0)) : mFd R u := by
  obtain ⟨k1, k2, k3⟩ := h
  have ef := fForces_toInt H
  have en := fNearest_toInt H
  obtain ⟨h1, h2, h3, h4, -⟩ := H
  have e : u 0 6 = fForces R := Int32.toInt_inj.mp (by rw [k1, ef]; omega)
  refine ⟨e, fun hne => ?_⟩
  have : ¬ (fForces R).toInt = 0 := fun z => hne ((zeqI rfl zc0).mpr z)
  obtain ⟨k4, k5, k6⟩ := k3 (by omega)
  exact ⟨Int32.toInt_inj.mp (by rw [k4, h1]), Int32.toInt_inj.mp (by rw [k5, h2]; omega), Int32.toInt_inj.mp (by rw [k6, en]; omega)⟩
theorem fStands_iff {R : Nat → Int32} {lo hi : Int} (H : rLH R lo hi) : (0 < fForces R ↔ ¬ fStands R = 0) := by
  have ef := fForces_toInt H
  obtain ⟨h1, h2, h3, h4, -⟩ := H
  unfold fStands
  rw [zltI zc0 ef]
  have := zB01 (c := fGreat R < fLeast R)
  rw [this, zltI h2 h1]
  omega
set_option maxHeartbeats 1000000 in
set_option maxRecDepth 100000 in
theorem k_lacks (l : Launch) (D : va_G) (am : Nat → Nat) (cI cR cS cL : ClassId) (dg : Int64) (mem : zM) {k : Nat} (hk : k < 4) {R : Nat → Int32} {p0 : Nat} (hR : mR (mem 1) k R p0) (hQ : rQ R p0) (hfd : rFd R) (f : Int32) : zMi l yX6_lacks wsX6_lacks ({ frames := 1, cells := 0, slots := 0, locals := 21 }) D (cK cI cR cS cL) [.ref (am 0), .int (nI k), .int f, .int (fLoad R), .int (fPush R f)] (mw am cI dg mem) (fun r u => r = fWGW R f ∧ u = mem) (mw am cI dg) 0 0 := by
  refine zMiM.of (cc := cX6_lacks) (maxL := 10) (ret := (some .int)) (by decide +kernel) rfl (lv0 := [(0, .ref (am 0)), (1, .int (nI k)), (2, .int f), (3, .int (fLoad R)), (4, .int (fPush R f))]) (Nat.le_of_ble_eq_true rfl) rfl ?_
  intro p e s m args below meth c E hZ hr hlocks hnm
  obtain ⟨q0, q1, q2, q3, q4, q5, q6, q7, qp⟩ := id hR
  have ew : fWk (R 4) = fWP R := (fWP_toInt hfd).2.2.symm
  have eg : fGk (R 3) = fGP R := (fGP_toInt hfd).2.2.symm
  refine z_aload_n E dX6_lacks_0 rfl 0 rfl ?_
  refine z_get E 0 mw_obj (C := RX6) (T := TX6) (N := 16) rfl (fun _ h => List.mem_cons_of_mem _ (List.mem_append_right _ h)) 1 (by decide) (List.mem_of_getElem? (i := 1) (by decide +kernel)) rfl (v := .ref (am 1)) rfl dX6_lacks_1 ?_
  refine z_iload_n E dX6_lacks_4 rfl 1 rfl ?_
  refine z_iconst (v := 1) E dX6_lacks_5 (by decide) ?_
  refine z_callSi E hZ (k_of l D am cI cR cS cL dg mem (nI k) 1) gX6_lacks_X6_of (n := 2) rfl rfl rfl (by decide +kernel) rfl ⟨Nat.le_of_ble_eq_true rfl, Nat.le_of_ble_eq_true rfl⟩ (As := [.int (nI k), .int 1]) (rest := [.ref (am 1)]) rfl (Nat.le_of_ble_eq_true rfl) ⟨Nat.le_of_ble_eq_true rfl, Nat.le_of_ble_eq_true rfl⟩ dX6_lacks_6 (fun r u hp => ?_)
  rw [hp.1, hp.2]
  rw [zof k (y := 1) (w := 1) rfl]
  refine z_iald E 1 0 mw_s rfl (vp_in_nI (by omega) (by decide)) (v := R 1) ((congrArg (mem 1) (nI_clamp (by omega))).trans q1) dX6_lacks_9 ?_
  refine z_istore (lv' := [(5, .int (R 1)), (0, .ref (am 0)), (1, .int (nI k)), (2, .int f), (3, .int (fLoad R)), (4, .int (fPush R f))]) E dX6_lacks_10 (by decide) rfl ?_
  refine z_aload_n E dX6_lacks_12 rfl 1 rfl ?_
  refine z_get E 0 mw_obj (C := RX6) (T := TX6) (N := 16) rfl (fun _ h => List.mem_cons_of_mem _ (List.mem_append_right _ h)) 1 (by decide) (List.mem_of_getElem? (i := 1) (by decide +kernel)) rfl (v := .ref (am 1)) rfl dX6_lacks_13 ?_
  refine z_iload_n E dX6_lacks_16 rfl 2 rfl ?_
  refine z_iconst (v := 4) E dX6_lacks_17 (by decide) ?_
  refine z_callSi E hZ (k_of l D am cI cR cS cL dg mem (nI k) 4) gX6_lacks_X6_of (n := 2) rfl rfl rfl (by decide +kernel) rfl ⟨Nat.le_of_ble_eq_true rfl, Nat.le_of_ble_eq_true rfl⟩ (As := [.int (nI k), .int 4]) (rest := [.ref (am 1)]) rfl (Nat.le_of_ble_eq_true rfl) ⟨Nat.le_of_ble_eq_true rfl, Nat.le_of_ble_eq_true rfl⟩ dX6_lacks_18 (fun r u hp => ?_)
  rw [hp.1, hp.2]
  rw [zof k (y := 4) (w := 4) rfl]
  refine z_iald E 1 0 mw_s rfl (vp_in_nI (by omega) (by decide)) (v := R 4) ((congrArg (mem 1) (nI_clamp (by omega))).trans q4) dX6_lacks_21 ?_
  refine z_istore (lv' := [(6, .int (R 4)), (5, .int (R 1)), (0, .ref (am 0)), (1, .int (nI k)), (2, .int f), (3, .int (fLoad R)), (4, .int (fPush R f))]) E dX6_lacks_22 (by decide) rfl ?_
  refine z_join (fun v34 => v34 = fAbs f) (pc2 := 34) (c2 := 0) (s2 := 0) (lv2 := (fun _ => [(6, .int (R 4)), (5, .int (R 1)), (0, .ref (am 0)), (1, .int (nI k)), (2, .int f), (3, .int (fLoad R)), (4, .int (fPush R f))])) (st2 := (fun v34 => [.int v34])) (fun v34 hv34 => ?_) (fun J34 => ?_)
  · subst hv34
    refine z_istore (lv' := [(7, .int (fAbs f)), (6, .int (R 4)), (5, .int (R 1)), (0, .ref (am 0)), (1, .int (nI k)), (2, .int f), (3, .int (fLoad R)), (4, .int (fPush R f))]) E dX6_lacks_34 (by decide) rfl ?_
    refine z_join (fun v71 => v71 = (if fWallBad R f = true then 0 else 1)) (pc2 := 71) (c2 := 0) (s2 := 0) (lv2 := (fun _ => [(7, .int (fAbs f)), (6, .int (R 4)), (5, .int (R 1)), (0, .ref (am 0)), (1, .int (nI k)), (2, .int f), (3, .int (fLoad R)), (4, .int (fPush R f))])) (st2 := (fun v71 => [.int v71])) (fun v71 hv71 => ?_) (fun J71 => ?_)
    · subst hv71
      refine z_istore (lv' := [(8, .int ((if fWallBad R f = true then 0 else 1))), (7, .int (fAbs f)), (6, .int (R 4)), (5, .int (R 1)), (0, .ref (am 0)), (1, .int (nI k)), (2, .int f), (3, .int (fLoad R)), (4, .int (fPush R f))]) E dX6_lacks_71 (by decide) rfl ?_
      refine z_join (fun v123 => v123 = (if 100 * fPush R f ≤ 10 * R 1 * (fGP R * (fLoad R - f) + 100 * R 5) then 1 else 0)) (pc2 := 123) (c2 := 0) (s2 := 0) (lv2 := (fun _ => [(8, .int ((if fWallBad R f = true then 0 else 1))), (7, .int (fAbs f)), (6, .int (R 4)), (5, .int (R 1)), (0, .ref (am 0)), (1, .int (nI k)), (2, .int f), (3, .int (fLoad R)), (4, .int (fPush R f))])) (st2 := (fun v123 => [.int v123])) (fun v123 hv123 => ?_) (fun J123 => ?_)
      · subst hv123
        refine z_istore (lv' := [(9, .int ((if 100 * fPush R f ≤ 10 * R 1 * (fGP R * (fLoad R - f) + 100 * R 5) then 1 else 0))), (8, .int ((if fWallBad R f = true then 0 else 1))), (7, .int (fAbs f)), (6, .int (R 4)), (5, .int (R 1)), (0, .ref (am 0)), (1, .int (nI k)), (2, .int f), (3, .int (fLoad R)), (4, .int (fPush R f))]) E dX6_lacks_123 (by decide) rfl ?_
        refine z_join (fun v135 => v135 = fWGW1 R f) (pc2 := 135) (c2 := 0) (s2 := 0) (lv2 := (fun _ => [(9, .int ((if 100 * fPush R f ≤ 10 * R 1 * (fGP R * (fLoad R - f) + 100 * R 5) then 1 else 0))), (8, .int ((if fWallBad R f = true then 0 else 1))), (7, .int (fAbs f)), (6, .int (R 4)), (5, .int (R 1)), (0, .ref (am 0)), (1, .int (nI k)), (2, .int f), (3, .int (fLoad R)), (4, .int (fPush R f))])) (st2 := (fun v135 => [.int v135])) (fun v135 hv135 => ?_) (fun J135 => ?_)
        · subst hv135
          refine z_join (fun v145 => v145 = (if fWallBad R f = true then 2 else 0)) (pc2 := 145) (c2 := 0) (s2 := 0) (lv2 := (fun _ => [(9, .int ((if 100 * fPush R f ≤ 10 * R 1 * (fGP R * (fLoad R - f) + 100 * R 5) then 1 else 0))), (8, .int ((if fWallBad R f = true then 0 else 1))), (7, .int (fAbs f)), (6, .int (R 4)), (5, .int (R 1)), (0, .ref (am 0)), (1, .int (nI k)), (2, .int f), (3, .int (fLoad R)), (4, .int (fPush R f))])) (st2 := (fun v145 => [.int v145, .int (fWGW1 R f)])) (fun v145 hv145 => ?_) (fun J145 => ?_)
          · subst hv145
            refine z_iadd E dX6_lacks_145 ?_
            refine z_join (fun v156 => v156 = (if f ≤ fLoad R then 0 else 4)) (pc2 := 156) (c2 := 0) (s2 := 0) (lv2 := (fun _ => [(9, .int ((if 100 * fPush R f ≤ 10 * R 1 * (fGP R * (fLoad R - f) + 100 * R 5) then 1 else 0))), (8, .int ((if fWallBad R f = true then 0 else 1))), (7, .int (fAbs f)), (6, .int (R 4)), (5, .int (R 1)), (0, .ref (am 0)), (1, .int (nI k)), (2, .int f), (3, .int (fLoad R)), (4, .int (fPush R f))])) (st2 := (fun v156 => [.int v156, .int ((fWGW1 R f) + ((if fWallBad R f = true then 2 else 0)))])) (fun v156 hv156 => ?_) (fun J156 => ?_)
            · subst hv156
              refine z_iadd E dX6_lacks_156 ?_
              refine z_join (fun v168 => v168 = (if 100 * fPush R f ≤ 10 * R 1 * (fGP R * (fLoad R - f) + 100 * R 5) then 0 else 8)) (pc2 := 168) (c2 := 0) (s2 := 0) (lv2 := (fun _ => [(9, .int ((if 100 * fPush R f ≤ 10 * R 1 * (fGP R * (fLoad R - f) + 100 * R 5) then 1 else 0))), (8, .int ((if fWallBad R f = true then 0 else 1))), (7, .int (fAbs f)), (6, .int (R 4)), (5, .int (R 1)), (0, .ref (am 0)), (1, .int (nI k)), (2, .int f), (3, .int (fLoad R)), (4, .int (fPush R f))])) (st2 := (fun v168 => [.int v168, .int (((fWGW1 R f) + ((if fWallBad R f = true then 2 else 0))) + ((if f ≤ fLoad R then 0 else 4)))])) (fun v168 hv168 => ?_) (fun J168 => ?_)
              · subst hv168
                refine z_iadd E dX6_lacks_168 ?_
                exact z_iretM E hr hlocks (mem) rfl ⟨zWsum R f, rfl⟩ (Nat.le_of_ble_eq_true rfl) (Nat.le_of_ble_eq_true rfl) dX6_lacks_169
              · skip
                refine z_iload E dX6_lacks_157 0 rfl ?_
                refine z_if_eq (tgt := 166) E dX6_lacks_159 (by decide) (fun c159 => ?_) (fun c159 => ?_)
                · skip
                  refine z_bipush (v := 8) E dX6_lacks_166 (by decide) ?_
                  exact J168 _ (if_neg (zB10.mp c159)).symm
                · skip
                  refine z_iconst (v := 0) E dX6_lacks_162 (by decide) ?_
                  refine z_goto (tgt := 168) E dX6_lacks_163 (by decide) ?_
                  exact J168 _ (if_pos (Decidable.not_not.mp (fun q => c159 (zB10.mpr q)))).symm
            · skip
              refine z_iload_n E dX6_lacks_146 rfl 7 rfl ?_
              refine z_iload_n E dX6_lacks_147 rfl 8 rfl ?_
              refine z_icmp_le (tgt := 155) E dX6_lacks_148 (by decide) (fun c148 => ?_) (fun c148 => ?_)
              · skip
                refine z_iconst (v := 0) E dX6_lacks_155 (by decide) ?_
                exact J156 _ (if_pos c148).symm
              · skip
                refine z_iconst (v := 4) E dX6_lacks_151 (by decide) ?_
                refine z_goto (tgt := 156) E dX6_lacks_152 (by decide) ?_
                exact J156 _ (if_neg c148).symm
          · skip
            refine z_iload E dX6_lacks_135 1 rfl ?_
            refine z_if_eq (tgt := 144) E dX6_lacks_137 (by decide) (fun c137 => ?_) (fun c137 => ?_)
            · skip
              refine z_iconst (v := 2) E dX6_lacks_144 (by decide) ?_
              exact J145 _ (if_pos (zB01.mp c137)).symm
            · skip
              refine z_iconst (v := 0) E dX6_lacks_140 (by decide) ?_
              refine z_goto (tgt := 145) E dX6_lacks_141 (by decide) ?_
              exact J145 _ (if_neg (fun q => c137 (zB01.mpr q))).symm
        · skip
          refine z_iload E dX6_lacks_125 9 rfl ?_
          refine z_if_ge (tgt := 134) E dX6_lacks_127 (by decide) (fun c127 => ?_) (fun c127 => ?_)
          · skip
            refine z_iconst (v := 0) E dX6_lacks_134 (by decide) ?_
            exact J135 _ (if_pos c127).symm
          · skip
            refine z_iconst (v := 1) E dX6_lacks_130 (by decide) ?_
            refine z_goto (tgt := 135) E dX6_lacks_131 (by decide) ?_
            exact J135 _ (if_neg c127).symm
      · skip
        refine z_bipush (v := 100) E dX6_lacks_73 (by decide) ?_
        refine z_iload E dX6_lacks_75 8 rfl ?_
        refine z_imul E dX6_lacks_77 ?_
        refine z_bipush (v := 10) E dX6_lacks_78 (by decide) ?_
        refine z_iload E dX6_lacks_80 3 rfl ?_
        refine z_imul E dX6_lacks_82 ?_
        refine z_aload_n E dX6_lacks_83 rfl 4 rfl ?_
        refine z_get E 0 mw_obj (C := RX6) (T := TX6) (N := 16) rfl (fun _ h => List.mem_cons_of_mem _ (List.mem_append_right _ h)) 1 (by decide) (List.mem_of_getElem? (i := 1) (by decide +kernel)) rfl (v := .ref (am 1)) rfl dX6_lacks_84 ?_
        refine z_iload_n E dX6_lacks_87 rfl 5 rfl ?_
        refine z_iconst (v := 3) E dX6_lacks_88 (by decide) ?_
        refine z_callSi E hZ (k_of l D am cI cR cS cL dg mem (nI k) 3) gX6_lacks_X6_of (n := 2) rfl rfl rfl (by decide +kernel) rfl ⟨Nat.le_of_ble_eq_true rfl, Nat.le_of_ble_eq_true rfl⟩ (As := [.int (nI k), .int 3]) (rest := [.ref (am 1), .int (10 * (R 1)), .int (100 * (fPush R f))]) rfl (Nat.le_of_ble_eq_true rfl) ⟨Nat.le_of_ble_eq_true rfl, Nat.le_of_ble_eq_true rfl⟩ dX6_lacks_89 (fun r u hp => ?_)
        rw [hp.1, hp.2]
        rw [zof k (y := 3) (w := 3) rfl]
        refine z_iald E 1 0 mw_s rfl (vp_in_nI (by omega) (by decide)) (v := R 3) ((congrArg (mem 1) (nI_clamp (by omega))).trans q3) dX6_lacks_92 ?_
        refine z_callSi E hZ (k_groundOf l D am cI cR cS cL dg mem (R 3)) gX6_lacks_X6_groundOf (n := 1) rfl rfl rfl (by decide +kernel) rfl ⟨Nat.le_of_ble_eq_true rfl, Nat.le_of_ble_eq_true rfl⟩ (As := [.int (R 3)]) (rest := [.int (10 * (R 1)), .int (100 * (fPush R f))]) rfl (Nat.le_of_ble_eq_true rfl) ⟨Nat.le_of_ble_eq_true rfl, Nat.le_of_ble_eq_true rfl⟩ dX6_lacks_93 (fun r u hp => ?_)
        rw [hp.1, hp.2]
        rw [eg]
        refine z_iload_n E dX6_lacks_96 rfl 7 rfl ?_
        refine z_iload_n E dX6_lacks_97 rfl 6 rfl ?_
        refine z_isub E dX6_lacks_98 ?_
        refine z_imul E dX6_lacks_99 ?_
        refine z_bipush (v := 100) E dX6_lacks_100 (by decide) ?_
        refine z_aload_n E dX6_lacks_102 rfl 4 rfl ?_
        refine z_get E 0 mw_obj (C := RX6) (T := TX6) (N := 16) rfl (fun _ h => List.mem_cons_of_mem _ (List.mem_append_right _ h)) 1 (by decide) (List.mem_of_getElem? (i := 1) (by decide +kernel)) rfl (v := .ref (am 1)) rfl dX6_lacks_103 ?_
        refine z_iload_n E dX6_lacks_106 rfl 5 rfl ?_
        refine z_iconst (v := 5) E dX6_lacks_107 (by decide) ?_
        refine z_callSi E hZ (k_of l D am cI cR cS cL dg mem (nI k) 5) gX6_lacks_X6_of (n := 2) rfl rfl rfl (by decide +kernel) rfl ⟨Nat.le_of_ble_eq_true rfl, Nat.le_of_ble_eq_true rfl⟩ (As := [.int (nI k), .int 5]) (rest := [.ref (am 1), .int 100, .int ((fGP R) * ((fLoad R) - f)), .int (10 * (R 1)), .int (100 * (fPush R f))]) rfl (Nat.le_of_ble_eq_true rfl) ⟨Nat.le_of_ble_eq_true rfl, Nat.le_of_ble_eq_true rfl⟩ dX6_lacks_108 (fun r u hp => ?_)
        rw [hp.1, hp.2]
        rw [zof k (y := 5) (w := 5) rfl]
        refine z_iald E 1 0 mw_s rfl (vp_in_nI (by omega) (by decide)) (v := R 5) ((congrArg (mem 1) (nI_clamp (by omega))).trans q5) dX6_lacks_111 ?_
        refine z_imul E dX6_lacks_112 ?_
        refine z_iadd E dX6_lacks_113 ?_
        refine z_imul E dX6_lacks_114 ?_
        refine z_icmp_gt (tgt := 122) E dX6_lacks_115 (by decide) (fun c115 => ?_) (fun c115 => ?_)
        · skip
          refine z_iconst (v := 0) E dX6_lacks_122 (by decide) ?_
          exact J123 _ (if_neg (Int32.not_le.mpr c115)).symm
        · skip
          refine z_iconst (v := 1) E dX6_lacks_118 (by decide) ?_
          refine z_goto (tgt := 123) E dX6_lacks_119 (by decide) ?_
          exact J123 _ (if_pos (Int32.not_lt.mp c115)).symm
    · skip
      refine z_sipush (v := 1000) E dX6_lacks_36 (by decide) ?_
      refine z_iload E dX6_lacks_39 2 rfl ?_
      refine z_imul E dX6_lacks_41 ?_
      refine z_iload E dX6_lacks_42 0 rfl ?_
      refine z_imul E dX6_lacks_44 ?_
      refine z_iload E dX6_lacks_45 1 rfl ?_
      refine z_callSi E hZ (k_wallOf l D am cI cR cS cL dg mem (R 4)) gX6_lacks_X6_wallOf (n := 1) rfl rfl rfl (by decide +kernel) rfl ⟨Nat.le_of_ble_eq_true rfl, Nat.le_of_ble_eq_true rfl⟩ (As := [.int (R 4)]) (rest := [.int ((1000 * (R 1)) * (fAbs f))]) rfl (Nat.le_of_ble_eq_true rfl) ⟨Nat.le_of_ble_eq_true rfl, Nat.le_of_ble_eq_true rfl⟩ dX6_lacks_47 (fun r u hp => ?_)
      rw [hp.1, hp.2]
      rw [ew]
      refine z_iload E dX6_lacks_50 7 rfl ?_
      refine z_imul E dX6_lacks_52 ?_
      refine z_icmp_gt (tgt := 70) E dX6_lacks_53 (by decide) (fun c53 => ?_) (fun c53 => ?_)
      · skip
        refine z_iconst (v := 0) E dX6_lacks_70 (by decide) ?_
        exact J71 _ (if_pos (fWallBad_1 c53)).symm
      · skip
        refine z_iload E dX6_lacks_56 1 rfl ?_
        refine z_iconst (v := 3) E dX6_lacks_58 (by decide) ?_
        refine z_icmp_ne (tgt := 66) E dX6_lacks_59 (by decide) (fun c59 => ?_) (fun c59 => ?_)
        · skip
          refine z_iconst (v := 1) E dX6_lacks_66 (by decide) ?_
          refine z_goto (tgt := 71) E dX6_lacks_67 (by decide) ?_
          exact J71 _ (if_neg (fWallBad_3 c53 c59)).symm
        · skip
          refine z_iload_n E dX6_lacks_62 rfl 5 rfl ?_
          refine z_if_lt (tgt := 70) E dX6_lacks_63 (by decide) (fun c63 => ?_) (fun c63 => ?_)
          · skip
            refine z_iconst (v := 0) E dX6_lacks_70 (by decide) ?_
            exact J71 _ (if_pos (fWallBad_2 c59 (Int32.not_le.mpr c63))).symm
          · skip
            refine z_iconst (v := 1) E dX6_lacks_66 (by decide) ?_
            refine z_goto (tgt := 71) E dX6_lacks_67 (by decide) ?_
            exact J71 _ (if_neg (fWallBad_4 c53 (Int32.not_lt.mp c63))).symm
  · skip
    refine z_iload_n E dX6_lacks_24 rfl 4 rfl ?_
    refine z_if_ge (tgt := 33) E dX6_lacks_25 (by decide) (fun c25 => ?_) (fun c25 => ?_)
    · skip
      refine z_iload_n E dX6_lacks_33 rfl 4 rfl ?_
      exact J34 _ (if_pos c25).symm
    · skip
      refine z_iload_n E dX6_lacks_28 rfl 4 rfl ?_
      refine z_ineg E dX6_lacks_29 ?_
      refine z_goto (tgt := 34) E dX6_lacks_30 (by decide) ?_
      exact J34 _ ((if_neg c25).trans (Int32.zero_sub f)).symm
