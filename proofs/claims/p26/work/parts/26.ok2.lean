/-! what keeps the rigs as they may stand -/
theorem zOK_only {mem u : zM} {j : Nat} (h : zOK mem) (ho : zOnly j mem u) (hr : rOK (rv u j)) : zOK u := fun i hi => by
  by_cases e : i = j
  · subst e; exact hr
  · rw [ho.rv e]; exact h i hi
theorem zOK_fall {mem : zM} {j : Nat} (h : zOK mem) (hj : j < 4) : zOK (sFall mem 0 j) := fun i hi => by
  by_cases e : i = j
  · subst e
    rw [rv_fall (by omega)]
    exact ⟨rFd_cl (rFd_congr (fun k hk => pk_un (by omega)) (h i hi).1), 0, rPp_cl _⟩
  · have : rv (sFall mem 0 j) i = rv mem i := rv_eq (sFall_ne (by omega) (by omega) (by omega) (by omega)) (sFall_ne (by omega) (by omega) (by omega) (by omega)) (sFall_ne (by omega) (by omega) (by omega) (by omega))
    rw [this]; exact h i hi
theorem zOK_FN {mem : zM} {j : Nat} (h : zOK mem) (hj : j < 4) : zOK (sFN mem 0 j) := by
  unfold sFN
  split
  · exact h
  · split
    · exact zOK_fall h hj
    · exact h
theorem zOK_add {mem : zM} {j w p : Nat} (h : zOK mem) (hj : j < 4) (hp : rPp (rv mem j) p) (h3 : p < 3) (h1 : 20 ≤ w) (h2 : w ≤ 150) : zOK (sAdd mem j (nI w)) := zOK_only h (zOnly_add _ _ _) (by
  rw [rv_add hp.2.1 h3]
  exact ⟨rFd_add (h j hj).1, _, rPp_add hp h3 h1 h2⟩)
theorem zOK_rm {mem : zM} {j q p : Nat} (h : zOK mem) (hj : j < 4) (hp : rPp (rv mem j) p) (hq : q < p) : zOK (sRemove mem j (nI q)) := zOK_only h (zOnly_remove _ _ _) (by
  have := hp.1
  rw [rv_remove (fBears_of hp.2.1 hp.1 hq), nI_clamp (by omega)]
  exact ⟨rFd_rm (h j hj).1, _, rPp_rm hp hq⟩)
theorem zOK_fld {mem : zM} {j n : Nat} {v : Int32} (h : zOK mem) (hj : j < 4) (hn : n < 6) (hv : rFd (upd (rv mem j) n v)) : zOK (mset mem (3 * j) n v) := zOK_only h (zOnly_set (Or.inl rfl) _ _) (by
  rw [rv_fld (by omega)]
  exact rOK_fld hn (h j hj) hv)
theorem rv_wkM {m : zM} {j q : Nat} {way : Int32} (hj : j < 29) (hq : q < 3) : rv (wkM 0 j q way m) j = upd (rv m j) (11 + q) (m (3 * j + 2) q + way) := by
  unfold wkM
  rw [rv_ne (by omega) (by omega) (by omega), rv_st hq]
theorem zOK_wkM {m : zM} {j q p b : Nat} {way : Int32} (h : zOK m) (hj : j < 4) (hp : rPp (rv m j) p) (hq : q < p) (hb : b ≤ 10) (hv : m (3 * j + 2) q + way = nI b) : zOK (wkM 0 j q way m) ∧ rPp (rv (wkM 0 j q way m) j) p := by
  have hp3 := hp.1
  have e := rv_wkM (m := m) (way := way) (show j < 29 by omega) (show q < 3 by omega)
  rw [hv] at e
  have k := rPp_step hp hq hb
  refine ⟨fun i hi => ?_, by rw [e]; exact k⟩
  by_cases ij : i = j
  · subst ij
    rw [e]
    exact ⟨rFd_congr (fun k hk => pk_un (by omega)) (h i hi).1, p, k⟩
  · have : rv (wkM 0 j q way m) i = rv m i := by
      unfold wkM
      rw [rv_ne (by omega) (by omega) (by omega), rv_ne (by omega) (by omega) (by omega)]
    rw [this]; exact h i hi
theorem wkM_at {m : zM} {j q : Nat} {way : Int32} (hj : j < 4) : wkM 0 j q way m (3 * j + 2) q = m (3 * j + 2) q + way := by
  unfold wkM
  rw [mset_ne _ _ _ (by omega), mset_at]
theorem zOK_up {j q p : Nat} {st : Int32} (hj : j < 4) (hq : q < p) : ∀ (d c : Nat) (m : zM), zOK m → rPp (rv m j) p → m (3 * j + 2) q = nI c → c + d ≤ 10 → zOK (wkGo 0 j q 1 st d m).2
  | 0, c, m, h, hp, hc, hd => by rw [wkGo]; exact h
  | d + 1, c, m, h, hp, hc, hd => by
    rw [wkGo_succ]
    have e : m (3 * j + 2) q + 1 = nI (c + 1) := by rw [hc, nI_1]
    obtain ⟨k1, k2⟩ := zOK_wkM h hj hp hq (by omega) e
    split
    · exact zOK_fall k1 hj
    · exact zOK_up hj hq d (c + 1) _ k1 k2 (by rw [wkM_at hj]; exact e) (by omega)
theorem zOK_down {j q p : Nat} {st : Int32} (hj : j < 4) (hq : q < p) : ∀ (d c : Nat) (m : zM), zOK m → rPp (rv m j) p → m (3 * j + 2) q = nI c → c ≤ 10 → d ≤ c → zOK (wkGo 0 j q (-1) st d m).2
  | 0, c, m, h, hp, hc, hd, _ => by rw [wkGo]; exact h
  | d + 1, c, m, h, hp, hc, hd, hdc => by
    rw [wkGo_succ]
    obtain ⟨c, rfl⟩ : ∃ c', c = c' + 1 := ⟨c - 1, by omega⟩
    have e : m (3 * j + 2) q + -1 = nI c := by rw [hc]; exact pk_m1 c
    obtain ⟨k1, k2⟩ := zOK_wkM h hj hp hq (by omega) e
    split
    · exact zOK_fall k1 hj
    · exact zOK_down hj hq d c _ k1 k2 (by rw [wkM_at hj]; exact e) (by omega) (by omega)
theorem zOK_walk {mem : zM} {j q p a b : Nat} (h : zOK mem) (hj : j < 4) (hp : rPp (rv mem j) p) (hq : q < p) (ha : a ≤ 10) (hb : b ≤ 10) (hc : mem (3 * j + 2) q = nI a) : zOK (sWalk mem j q b a).2 := by
  unfold sWalk zway zdist
  by_cases hab : a ≤ b
  · rw [if_pos hab, if_pos hab]; exact zOK_up hj hq _ a _ h hp hc (by omega)
  · rw [if_neg hab, if_neg hab]; exact zOK_down hj hq _ a _ h hp hc ha (by omega)
