/-! what a part may do -/
def zRowJ (r : Nat → Int32) (j : Nat) : Prop := j < 4 ∧ r 3 = nI j ∧ ∃ v : Nat, r 5 = nI v ∧ ((r 4 = 111 ∧ 20 ≤ v ∧ v ≤ 150) ∨ (r 4 = 114 ∧ v ≤ 200) ∨ (r 4 = 117 ∧ v ≤ 10) ∨ r 4 = 120)
theorem zRowJ.hr5 {r : Nat → Int32} {j : Nat} (h : zRowJ r j) : r 4 = 117 → ∃ b, b ≤ 10 ∧ r 5 = nI b := fun e => by
  obtain ⟨-, -, v, hv, h⟩ := h
  rcases h with ⟨q, -, -⟩ | ⟨q, -⟩ | ⟨q, h⟩ | q
  · rw [e] at q; exact absurd q (by decide)
  · rw [e] at q; exact absurd q (by decide)
  · exact ⟨v, h, hv⟩
  · rw [e] at q; exact absurd q (by decide)
theorem sFN_ne {mem : zM} {j i : Nat} (h87 : i ≠ 87) (h : i ≠ 3 * j) (h1 : i ≠ 3 * j + 1) (h2 : i ≠ 3 * j + 2) : sFN mem 0 j i = mem i := by
  unfold sFN
  split
  · rfl
  · split
    · exact sFall_ne h87 h h1 h2
    · rfl
theorem wkM_ne {m : zM} {j q i : Nat} {way : Int32} (h87 : i ≠ 87) (h2 : i ≠ 3 * j + 2) : wkM 0 j q way m i = m i := by
  unfold wkM
  rw [mset_ne _ _ _ (by omega), mset_ne _ _ _ h2]
theorem wkGo_ne {j q i : Nat} {way st : Int32} (h87 : i ≠ 87) (h : i ≠ 3 * j) (h1 : i ≠ 3 * j + 1) (h2 : i ≠ 3 * j + 2) : ∀ (d : Nat) (m : zM), (wkGo 0 j q way st d m).2 i = m i
  | 0, m => by rw [wkGo]
  | d + 1, m => by
    rw [wkGo_succ]
    split
    · show sFall _ 0 j i = _
      rw [sFall_ne h87 h h1 h2, wkM_ne h87 h2]
    · rw [wkGo_ne h87 h h1 h2 d, wkM_ne h87 h2]
theorem fPPj_ne {mem : zM} {j i : Nat} (h87 : i ≠ 87) (h : i ≠ 3 * j) (h1 : i ≠ 3 * j + 1) (h2 : i ≠ 3 * j + 2) : (fPPj mem j).2 i = mem i := by
  unfold fPPj
  split
  · split
    · exact (sFN_ne h87 h h1 h2).trans (zOnly_add _ _ _ i h h1 h2)
    · rfl
  · split
    · exact (sFN_ne h87 h h1 h2).trans (mset_ne _ _ _ h)
    · split
      · split
        · rfl
        · exact wkGo_ne h87 h h1 h2 _ _
      · split
        · rfl
        · exact (sFN_ne h87 h h1 h2).trans (zOnly_remove _ _ _ i h h1 h2)
theorem fFull_lt {R : Nat → Int32} {p : Nat} (h : R 7 = nI p) (hp : p ≤ 3) (h0 : fFull R = 0) : p < 3 := by
  unfold fFull at h0
  rw [h] at h0
  by_cases q : nI p < 3
  · exact (nI_ltI (a := p) (b := 3) (by omega) (by omega)).mp q
  · rw [if_neg q] at h0
    exact absurd h0 (by decide)
theorem rFd_rope {R : Nat → Int32} {v : Nat} (h : rFd R) (hv : v ≤ 200) : rFd (upd R 5 (nI v)) := by
  obtain ⟨h0, h1, h2, h3, h4, -⟩ := h
  unfold rFd
  rw [pk_us, pk_un (show 0 ≠ 5 by omega), pk_un (show 1 ≠ 5 by omega), pk_un (show 2 ≠ 5 by omega), pk_un (show 3 ≠ 5 by omega), pk_un (show 4 ≠ 5 by omega), nI_toInt (by omega)]
  exact ⟨h0, h1, h2, h3, h4, by omega, by omega⟩
theorem zOK_PP {mem : zM} {j : Nat} (h : zOK mem) (hr : zRowJ (mem 105) j) : zOK (fPPj mem j).2 := by
  obtain ⟨hj, h3, v, h5, hk⟩ := hr
  obtain ⟨hfd, p, hp⟩ := h j hj
  have e7 : mem (3 * j) 7 = nI p := hp.2.1
  have hp3 := hp.1
  unfold fPPj
  rcases hk with ⟨e, v1, v2⟩ | ⟨e, v1⟩ | ⟨e, v1⟩ | e
  · rw [if_pos e]
    split
    · next h0 =>
      rw [h5]
      exact zOK_FN (zOK_add h hj hp (fFull_lt hp.2.1 hp3 h0) v1 v2) hj
    · exact h
  · rw [if_neg (by rw [e]; decide), if_pos e, h5]
    exact zOK_FN (zOK_fld h hj (by omega) (rFd_rope hfd v1)) hj
  · rw [if_neg (by rw [e]; decide), if_neg (by rw [e]; decide), if_pos e]
    split
    · exact h
    · next h0 =>
      have p0 : 0 < p := Nat.pos_of_ne_zero (fun z => h0 (by rw [e7, z]; rfl))
      obtain ⟨a, ha, hc⟩ := h.hA j hj 0 (by omega)
      rw [h5, hc, nI_clamp (by omega), nI_clamp (by omega)]
      exact zOK_walk h hj hp p0 ha v1 hc
  · rw [if_neg (by rw [e]; decide), if_neg (by rw [e]; decide), if_neg (by rw [e]; decide)]
    split
    · exact h
    · next h0 =>
      have p0 : 0 < p := Nat.pos_of_ne_zero (fun z => h0 (by rw [e7, z]; rfl))
      obtain ⟨k, rfl⟩ : ∃ k, p = k + 1 := ⟨p - 1, by omega⟩
      rw [e7, nI_pred]
      exact zOK_FN (zOK_rm h hj hp (by omega)) hj
/-- the next part: its characters, the reader's row, the cursor -/
def zNx (cs : Nat → Int32) : Nat → Nat → Nat
  | 0, _ => 0
  | f + 1, q => if cs q = 59 then 0 else zNx cs f (q + 1) + 1
theorem zNx_of {cs : Nat → Int32} : ∀ (f q n : Nat), n ≤ f → (∀ i, i < n → ¬ cs (q + i) = 59) → (n = f ∨ cs (q + n) = 59) → zNx cs f q = n
  | 0, q, n, h, _, _ => by rw [zNx]; omega
  | f + 1, q, n, h, h1, h2 => by
    rw [zNx]
    rcases n with _ | n
    · rcases h2 with h2 | h2
      · omega
      · rw [if_pos (show cs q = 59 from h2)]
    · rw [if_neg (show ¬ cs q = 59 from h1 0 (by omega)), zNx_of f (q + 1) n (by omega) (fun i hi => by rw [show q + 1 + i = q + (i + 1) by omega]; exact h1 (i + 1) (by omega)) (by
        rcases h2 with h2 | h2
        · exact Or.inl (by omega)
        · exact Or.inr (by rw [show q + 1 + n = q + (n + 1) by omega]; exact h2))]
/-- the cursor behind the part at q -/
def zQn (cs : Nat → Int32) (L q : Nat) : Nat := if q + zNx cs (L - q) q < L then q + zNx cs (L - q) q + 1 else q + zNx cs (L - q) q
def sNP (mem : zM) (L q : Nat) : zM := mset (mrow mem 105 (rdS (mem 104) (mem 105) q (zNx (mem 104) (L - q) q))) 103 2 (nI (zQn (mem 104) L q))
theorem pNP_eq {mem u : zM} {L q n : Nat} (hq : q < L) (h : pNP mem L q n u) : n = zNx (mem 104) (L - q) q ∧ u = sNP mem L q ∧ q + n ≤ L ∧ (q + n = L ∨ mem 104 (q + n) = 59) ∧ (∀ i, i < n → ¬ mem 104 (q + i) = 59) := by
  obtain ⟨h1, h2, h3⟩ := h
  have e : zNx (mem 104) (L - q) q = n := zNx_of (L - q) q n (by omega) h2 (by
    rcases h3 with ⟨_, a, _⟩ | ⟨a, _⟩
    · exact Or.inr a
    · exact Or.inl (by omega))
  refine ⟨e.symm, ?_, h1, ?_, h2⟩
  · unfold sNP zQn
    rw [e]
    rcases h3 with ⟨a, _, b⟩ | ⟨a, b⟩
    · rw [if_pos a]; exact b
    · rw [if_neg (by omega)]; exact b
  · rcases h3 with ⟨_, a, _⟩ | ⟨a, _⟩
    · exact Or.inr a
    · exact Or.inl a
/-- the parts from the cursor q on: how many are done, and the memory then -/
def zPlay (L : Nat) : Nat → Nat → zM → Nat × zM
  | 0, _, m => (0, m)
  | f + 1, q, m => if L ≤ q then (0, m) else if (fPPj (sNP m L q) (sNP m L q 105 3).toNatClampNeg).1 = 0 then (0, (fPPj (sNP m L q) (sNP m L q 105 3).toNatClampNeg).2) else ((zPlay L f (zQn (m 104) L q) (fPPj (sNP m L q) (sNP m L q 105 3).toNatClampNeg).2).1 + 1, (zPlay L f (zQn (m 104) L q) (fPPj (sNP m L q) (sNP m L q 105 3).toNatClampNeg).2).2)
theorem zPlay_end {L f q : Nat} {m : zM} (h : L ≤ q) : zPlay L f q m = (0, m) := by
  cases f with
  | zero => rw [zPlay]
  | succ f => rw [zPlay, if_pos h]
theorem zPlay_no {L f q j : Nat} {m u v : zM} (h : q < L) (hu : u = sNP m L q) (hj : u 105 3 = nI j) (hj4 : j < 4) (hp : fPPj u j = (0, v)) : zPlay L (f + 1) q m = (0, v) := by
  rw [zPlay, if_neg (by omega), ← hu, hj, nI_clamp (by omega), hp, if_pos rfl]
theorem zPlay_go {L f q j : Nat} {m u v : zM} {r : Int32} (h : q < L) (hu : u = sNP m L q) (hj : u 105 3 = nI j) (hj4 : j < 4) (hp : fPPj u j = (r, v)) (hr : ¬ r = 0) : zPlay L (f + 1) q m = ((zPlay L f (zQn (m 104) L q) v).1 + 1, (zPlay L f (zQn (m 104) L q) v).2) := by
  rw [zPlay, if_neg (by omega), ← hu, hj, nI_clamp (by omega), hp, if_neg hr]
/-- whole works; where a part begins -/
def zWh (mem : zM) (L : Nat) : Prop := pFF mem L L ∧ ¬ fPW (rdN (mem 104) (mem 105) L) = 0
def zSt (cs : Nat → Int32) (q : Nat) : Prop := q = 0 ∨ ∃ k, q = k + 1 ∧ cs k = 59
def zRows (cs : Nat → Int32) (L : Nat) : Prop := ∀ q n, q < L → zSt cs q → q + n ≤ L → (∀ i, i < n → ¬ cs (q + i) = 59) → (q + n = L ∨ cs (q + n) = 59) → ∀ r, ∃ j, zRowJ (rdS cs r q n) j
theorem pFF_unique {mem : zM} {L k k' : Nat} (h : pFF mem L k) (h' : pFF mem L k') : k = k' := by
  obtain ⟨a1, a2, a3⟩ := h
  obtain ⟨b1, b2, b3⟩ := h'
  rcases Nat.lt_trichotomy k k' with g | g | g
  · exact absurd (a3 (by omega)) (b2 k g)
  · exact g
  · exact absurd (b3 (by omega)) (a2 k' g)
