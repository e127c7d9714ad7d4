/-! rigs as they may stand -/
/-- the people of a rig: p of them, and nobody behind them -/
def rPp (R : Nat → Int32) (p : Nat) : Prop := p ≤ 3 ∧ R 7 = nI p ∧ ∀ t, t < 3 → (t < p → ∃ w a : Nat, 20 ≤ w ∧ w ≤ 150 ∧ a ≤ 10 ∧ R (8 + t) = nI w ∧ R (11 + t) = nI a) ∧ (p ≤ t → R (8 + t) = 0 ∧ R (11 + t) = 0)
/-- the fields of a rig -/
def rFd (R : Nat → Int32) : Prop := (10 ≤ (R 0).toInt ∧ (R 0).toInt ≤ 100) ∧ (50 ≤ (R 1).toInt ∧ (R 1).toInt ≤ 300) ∧ (1 ≤ (R 2).toInt ∧ (R 2).toInt ≤ 100) ∧ (0 ≤ (R 3).toInt ∧ (R 3).toInt ≤ 3) ∧ (0 ≤ (R 4).toInt ∧ (R 4).toInt ≤ 3) ∧ (0 ≤ (R 5).toInt ∧ (R 5).toInt ≤ 200)
def rOK (R : Nat → Int32) : Prop := rFd R ∧ ∃ p, rPp R p
theorem rFd_congr {R R' : Nat → Int32} (h : ∀ k, k < 6 → R' k = R k) (hR : rFd R) : rFd R' := by
  unfold rFd
  rw [h 0 (by omega), h 1 (by omega), h 2 (by omega), h 3 (by omega), h 4 (by omega), h 5 (by omega)]
  exact hR
theorem rPp_congr {R R' : Nat → Int32} {p : Nat} (h : ∀ k, 7 ≤ k → k < 14 → R' k = R k) (hR : rPp R p) : rPp R' p := by
  obtain ⟨h1, h2, h3⟩ := hR
  refine ⟨h1, by rw [h 7 (by omega) (by omega)]; exact h2, fun t ht => ?_⟩
  rw [h (8 + t) (by omega) (by omega), h (11 + t) (by omega) (by omega)]
  exact h3 t ht
theorem rPp_unique {R : Nat → Int32} {p q : Nat} (h : rPp R p) (h' : rPp R q) : p = q := by
  have e := h.2.1.symm.trans h'.2.1
  have := h.1; have := h'.1
  exact (nI_eq (by omega) (by omega)).mp e
theorem rOK_fld {R : Nat → Int32} {n : Nat} {v : Int32} (hn : n < 6) (h : rOK R) (hv : rFd (upd R n v)) : rOK (upd R n v) := by
  obtain ⟨-, p, hp⟩ := h
  exact ⟨hv, p, rPp_congr (fun k h7 _ => pk_un (by omega)) hp⟩
/-- one more -/
def addR (R : Nat → Int32) (p : Nat) (w : Int32) : Nat → Int32 := upd (upd (upd R (8 + p) w) (11 + p) 0) 7 (nI (p + 1))
theorem rPp_add {R : Nat → Int32} {p w : Nat} (h : rPp R p) (hp : p < 3) (h1 : 20 ≤ w) (h2 : w ≤ 150) : rPp (addR R p (nI w)) (p + 1) := by
  obtain ⟨-, h7, hh⟩ := h
  refine ⟨by omega, pk_us, fun t ht => ?_⟩
  unfold addR
  rw [pk_un (show 8 + t ≠ 7 by omega), pk_un (show 11 + t ≠ 7 by omega)]
  by_cases e : t = p
  · subst e
    rw [pk_un (show 8 + t ≠ 11 + t by omega), pk_us, pk_us]
    exact ⟨fun _ => ⟨w, 0, h1, h2, by omega, rfl, rfl⟩, fun h => by omega⟩
  · rw [pk_un (show 8 + t ≠ 11 + p by omega), pk_un (show 8 + t ≠ 8 + p by omega), pk_un (show 11 + t ≠ 11 + p by omega), pk_un (show 11 + t ≠ 8 + p by omega)]
    exact ⟨fun h => (hh t ht).1 (by omega), fun h => (hh t ht).2 (by omega)⟩
theorem rPp_rm {R : Nat → Int32} {p q : Nat} (h : rPp R p) (hq : q < p) : rPp (rmR R q) (p - 1) := by
  obtain ⟨hp3, h7, hh⟩ := h
  refine ⟨by omega, ?_, fun t ht => ?_⟩
  · unfold rmR
    rw [if_pos rfl, h7]
    obtain ⟨k, rfl⟩ : ∃ k, p = k + 1 := ⟨p - 1, by omega⟩
    rw [nI_pred]; rfl
  · have e8 : rmR R q (8 + t) = shiftR (fun b => R (8 + b)) q t := by
      unfold rmR
      rw [if_neg (by omega), if_neg (by omega), if_pos (by omega), show 8 + t - 8 = t by omega]
    have e11 : rmR R q (11 + t) = shiftR (fun b => R (11 + b)) q t := by
      unfold rmR
      rw [if_neg (by omega), if_neg (by omega), if_neg (by omega), if_pos (by omega), show 11 + t - 11 = t by omega]
    rw [e8, e11]
    unfold shiftR
    by_cases t2 : t = 2
    · rw [if_pos t2, if_pos t2]
      exact ⟨fun h => by omega, fun _ => ⟨rfl, rfl⟩⟩
    · rw [if_neg t2, if_neg t2]
      by_cases tq : q ≤ t ∧ t < 2
      · rw [if_pos tq, if_pos tq]
        have := hh (t + 1) (by omega)
        exact ⟨fun h => this.1 (by omega), fun h => this.2 (by omega)⟩
      · rw [if_neg tq, if_neg tq]
        have tp : t < p := by omega
        have tp2 : ¬ p - 1 ≤ t := by omega
        exact ⟨fun _ => (hh t ht).1 tp, fun h => absurd h tp2⟩
/-- nobody -/
def clR (R : Nat → Int32) : Nat → Int32 := fun k => if k = 7 then 0 else if k < 8 then R k else 0
theorem rPp_cl (R : Nat → Int32) : rPp (clR R) 0 := by
  refine ⟨by omega, rfl, fun t ht => ⟨fun h => absurd h (by omega), fun _ => ?_⟩⟩
  unfold clR
  rw [if_neg (by omega), if_neg (by omega), if_neg (by omega), if_neg (by omega)]
  exact ⟨rfl, rfl⟩
theorem rFd_rm {R : Nat → Int32} {q : Nat} (h : rFd R) : rFd (rmR R q) := rFd_congr (fun k hk => by unfold rmR; rw [if_neg (by omega), if_pos (by omega)]) h
theorem rFd_cl {R : Nat → Int32} (h : rFd R) : rFd (clR R) := rFd_congr (fun k hk => by unfold clR; rw [if_neg (by omega), if_pos (by omega)]) h
theorem rFd_add {R : Nat → Int32} {p : Nat} {w : Int32} (h : rFd R) : rFd (addR R p w) := rFd_congr (fun k hk => by unfold addR; rw [pk_un (by omega), pk_un (by omega), pk_un (by omega)]) h
/-- a step -/
theorem rPp_step {R : Nat → Int32} {p t b : Nat} (h : rPp R p) (ht : t < p) (hb : b ≤ 10) : rPp (upd R (11 + t) (nI b)) p := by
  obtain ⟨hp3, h7, hh⟩ := h
  refine ⟨hp3, by rw [pk_un (by omega)]; exact h7, fun k hk => ?_⟩
  rw [pk_un (show 8 + k ≠ 11 + t by omega)]
  by_cases e : k = t
  · subst e
    rw [pk_us]
    obtain ⟨w, a, h1, h2, h3, h4, h5⟩ := (hh k hk).1 ht
    exact ⟨fun _ => ⟨w, b, h1, h2, hb, h4, rfl⟩, fun h => absurd h (by omega)⟩
  · rw [pk_un (show 11 + k ≠ 11 + t by omega)]
    exact hh k hk
/-- the rig j alone has changed -/
def zOnly (j : Nat) (mem u : zM) : Prop := ∀ i, i ≠ 3 * j → i ≠ 3 * j + 1 → i ≠ 3 * j + 2 → u i = mem i
theorem zOnly.rv {j k : Nat} {mem u : zM} (h : zOnly j mem u) (hk : k ≠ j) : rv u k = rv mem k := rv_eq (h _ (by omega) (by omega) (by omega)) (h _ (by omega) (by omega) (by omega)) (h _ (by omega) (by omega) (by omega))
theorem zOnly.refl (j : Nat) (mem : zM) : zOnly j mem mem := fun _ _ _ _ => rfl
theorem zOnly.trans {j : Nat} {a b c : zM} (h1 : zOnly j a b) (h2 : zOnly j b c) : zOnly j a c := fun i e1 e2 e3 => (h2 i e1 e2 e3).trans (h1 i e1 e2 e3)
theorem zOnly_set {j i : Nat} {mem : zM} (hi : i = 3 * j ∨ i = 3 * j + 1 ∨ i = 3 * j + 2) (k : Nat) (v : Int32) : zOnly j mem (mset mem i k v) := fun a e1 e2 e3 => mset_ne mem k v (by omega)
theorem zOnly_remove (j : Nat) (mem : zM) (q : Int32) : zOnly j mem (sRemove mem j q) := fun _ e1 e2 e3 => sRemove_ne e1 e2 e3
theorem zOnly_removeAll (j : Nat) (mem : zM) : zOnly j mem (sRemoveAll mem j) := fun i e1 e2 e3 => by
  funext k
  simp [sRemoveAll, e1, e2, e3]
theorem zOnly_add (j : Nat) (mem : zM) (v : Int32) : zOnly j mem (sAdd mem j v) := by
  unfold sAdd
  split
  · exact zOnly.refl _ _
  · split
    · exact zOnly.refl _ _
    · exact ((zOnly_set (by omega) _ _).trans (zOnly_set (by omega) _ _)).trans (zOnly_set (by omega) _ _)
theorem rv_removeAll (mem : zM) (j : Nat) : rv (sRemoveAll mem j) j = clR (rv mem j) := by
  funext k
  unfold clR
  by_cases h7 : k = 7
  · subst h7
    simp [rv, sRemoveAll]
  · rw [if_neg h7]
    by_cases h : k < 8
    · rw [if_pos h]
      simp [rv, h, sRemoveAll, h7]
    · rw [if_neg h]
      by_cases h2 : k < 11
      · have e : k - 8 < 3 := by omega
        simp [rv, h, h2, sRemoveAll, e]
      · by_cases h3 : k < 14
        · have e : k - 11 < 3 := by omega
          simp [rv, h, h2, h3, sRemoveAll, e]
        · simp [rv, h, h2, h3]
theorem rv_add {mem : zM} {j p : Nat} {v : Int32} (h7 : mem (3 * j) 7 = nI p) (hp : p < 3) : rv (sAdd mem j v) j = addR (rv mem j) p v := by
  unfold sAdd
  rw [h7, if_neg (nI_pos (by omega)), if_neg (show ¬ (3 : Int32) ≤ nI p from fun h => by have := (nI_leI (a := 3) (b := p) (by omega) (by omega)).mp h; omega), nI_clamp (by omega), nI_1]
  unfold addR
  rw [rv_fld (by omega), rv_st hp, rv_wt hp]
/-- a fall -/
theorem rv_fall {mem : zM} {t j : Nat} (hj : j < 29) : rv (sFall mem t j) j = clR (upd (rv mem j) 6 (rv mem j 6 + 1)) := by
  unfold sFall
  rw [rv_removeAll, rv_fld (by omega)]
  have e : rv (mset mem (87 + t) 1 (mem (87 + t) 1 + mem (3 * j) 7)) j = rv mem j := rv_ne (by omega) (by omega) (by omega)
  rw [e]
  rfl
theorem sFall_site {mem : zM} {j : Nat} (hj : j < 29) : sFall mem 0 j 87 = upd (mem 87) 1 (mem 87 1 + mem (3 * j) 7) := by
  unfold sFall
  rw [zOnly_removeAll j _ 87 (by omega) (by omega) (by omega), mset_ne _ _ _ (by omega), mset_self]
theorem sFall_ne {mem : zM} {j i : Nat} (h87 : i ≠ 87) (h : i ≠ 3 * j) (h1 : i ≠ 3 * j + 1) (h2 : i ≠ 3 * j + 2) : sFall mem 0 j i = mem i := by
  unfold sFall
  rw [zOnly_removeAll j _ i h h1 h2, mset_ne _ _ _ h, mset_ne _ _ _ (by omega)]
/-- all of a site's rigs -/
def zOK (mem : zM) : Prop := ∀ i, i < 4 → rOK (rv mem i)
theorem zOK.h3 {mem : zM} (h : zOK mem) : ∀ i, i < 4 → ∃ a, a ≤ 3 ∧ mem (3 * i) 7 = nI a := fun i hi => by
  obtain ⟨-, p, hp, h7, -⟩ := h i hi
  exact ⟨p, hp, h7⟩
theorem zOK.hA {mem : zM} (h : zOK mem) : ∀ i, i < 4 → ∀ t, t < 3 → ∃ a, a ≤ 10 ∧ mem (3 * i + 2) t = nI a := fun i hi t ht => by
  obtain ⟨-, p, hp, h7, hh⟩ := h i hi
  have e := rv_step (mem := mem) (j := i) ht
  rcases Nat.lt_or_ge t p with q | q
  · obtain ⟨w, a, _, _, h3, _, h5⟩ := (hh t ht).1 q
    exact ⟨a, h3, e.symm.trans h5⟩
  · exact ⟨0, by omega, e.symm.trans ((hh t ht).2 q).2⟩
