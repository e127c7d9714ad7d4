/-! the class's site and the reference's row -/
def zS (c : zM) (s : Nat → Int32) : Prop := (∀ k, k < 4 → ∃ p, rPp (rv c k) p ∧ mR s k (rv c k) p) ∧ s 56 = c 87 1 ∧ s 57 = c 87 2
/-- the reference's other cells, and its fields but the four of forces -/
def zFr (mem u : zM) : Prop := u 2 = mem 2 ∧ u 3 = mem 3 ∧ ∀ j, j < 6 ∨ 9 < j → u 0 j = mem 0 j
theorem zFr.refl (mem : zM) : zFr mem mem := ⟨rfl, rfl, fun _ _ => rfl⟩
theorem zFr.trans {a b c : zM} (h1 : zFr a b) (h2 : zFr b c) : zFr a c := ⟨h2.1.trans h1.1, h2.2.1.trans h1.2.1, fun j hj => (h2.2.2 j hj).trans (h1.2.2 j hj)⟩
theorem zScr.fr {mem u : zM} (h : zScr mem u) : zFr mem u := ⟨h.1 2 (by decide), h.1 3 (by decide), h.2⟩
theorem zFr_s (mem : zM) (k : Nat) (v : Int32) : zFr mem (mset mem 1 k v) := ⟨mset_ne _ _ _ (by decide), mset_ne _ _ _ (by decide), fun j _ => by rw [mset_ne _ _ _ (by decide)]⟩
theorem mR_congr {s s' : Nat → Int32} {k p : Nat} {R : Nat → Int32} (hp : p ≤ 3) (h : ∀ j, 14 * k ≤ j → j < 14 * k + 14 → s' j = s j) (hR : mR s k R p) : mR s' k R p := by
  obtain ⟨q0, q1, q2, q3, q4, q5, q6, q7, qp⟩ := hR
  refine ⟨?_, ?_, ?_, ?_, ?_, ?_, ?_, ?_, fun t ht => ?_⟩
  · rw [h _ (by omega) (by omega)]; exact q0
  · rw [h _ (by omega) (by omega)]; exact q1
  · rw [h _ (by omega) (by omega)]; exact q2
  · rw [h _ (by omega) (by omega)]; exact q3
  · rw [h _ (by omega) (by omega)]; exact q4
  · rw [h _ (by omega) (by omega)]; exact q5
  · rw [h _ (by omega) (by omega)]; exact q6
  · rw [h _ (by omega) (by omega)]; exact q7
  · rw [h _ (by omega) (by omega), h _ (by omega) (by omega)]; exact qp t ht
theorem mR_Rcongr {s : Nat → Int32} {k p : Nat} {R R' : Nat → Int32} (hp : p ≤ 3) (h : ∀ j, j < 14 → j ≠ 7 → R' j = R j) (hR : mR s k R p) : mR s k R' p := by
  obtain ⟨q0, q1, q2, q3, q4, q5, q6, q7, qp⟩ := hR
  refine ⟨?_, ?_, ?_, ?_, ?_, ?_, q6, ?_, fun t ht => ?_⟩
  · rw [h _ (by omega) (by omega)]; exact q0
  · rw [h _ (by omega) (by omega)]; exact q1
  · rw [h _ (by omega) (by omega)]; exact q2
  · rw [h _ (by omega) (by omega)]; exact q3
  · rw [h _ (by omega) (by omega)]; exact q4
  · rw [h _ (by omega) (by omega)]; exact q5
  · rw [h _ (by omega) (by omega)]; exact q7
  · rw [h _ (by omega) (by omega), h _ (by omega) (by omega)]; exact qp t ht
theorem zS_rig {c c' : zM} {s s' : Nat → Int32} {k p : Nat} (h : zS c s) (ho : ∀ i, i < 4 → i ≠ k → rv c' i = rv c i) (hs : ∀ j, j < 56 → (j < 14 * k ∨ 14 * k + 14 ≤ j) → s' j = s j) (hp : rPp (rv c' k) p) (hm : mR s' k (rv c' k) p) (h56 : s' 56 = c' 87 1) (h57 : s' 57 = c' 87 2) : zS c' s' := by
  refine ⟨fun i hi => ?_, h56, h57⟩
  by_cases e : i = k
  · subst e; exact ⟨p, hp, hm⟩
  · obtain ⟨q, h1, h2⟩ := h.1 i hi
    rw [ho i hi e]
    exact ⟨q, h1, mR_congr h1.1 (fun j a b => hs j (by omega) (by omega)) h2⟩
theorem mFall_s (mem : zM) (k : Nat) (R : Nat → Int32) (p : Nat) (F : Int32) : mFall mem k R p F 1 = upd (upd (upd (mem 1) (14 * k + 6) 0) (14 * k + 7) (R 6 + 1)) 56 (F + nI p) := by
  unfold mFall
  rw [mset_self, mset_self, mset_self]
theorem zS_fall {c mem : zM} {k p : Nat} (hk : k < 4) (h : zS c (mem 1)) (hp : rPp (rv c k) p) : zS (sFall c 0 k) (mFall mem k (rv c k) p (mem 1 56) 1) := by
  obtain ⟨p', hp', hm⟩ := h.1 k hk
  have e := rPp_unique hp hp'
  subst e
  have hrv := rv_fall (mem := c) (t := 0) (show k < 29 by omega)
  rw [mFall_s]
  have a56 : upd (upd (upd (mem 1) (14 * k + 6) 0) (14 * k + 7) (rv c k 6 + 1)) 56 (mem 1 56 + nI p) 56 = sFall c 0 k 87 1 := by
    rw [pk_us, sFall_site (by omega), pk_us, h.2.1]
    congr 1
    exact hp.2.1.symm
  refine zS_rig (k := k) (p := 0) h (fun i hi e => rv_eq (sFall_ne (by omega) (by omega) (by omega) (by omega)) (sFall_ne (by omega) (by omega) (by omega) (by omega)) (sFall_ne (by omega) (by omega) (by omega) (by omega))) (fun j hj e => ?_) (by rw [hrv]; exact rPp_cl _) ?_ a56 ?_
  · rw [pk_un (by omega), pk_un (by omega), pk_un (by omega)]
  · rw [hrv]
    obtain ⟨q0, q1, q2, q3, q4, q5, q6, q7, qp⟩ := hm
    refine ⟨?_, ?_, ?_, ?_, ?_, ?_, ?_, ?_, fun t ht => absurd ht (by omega)⟩
    · rw [pk_un (by omega), pk_un (by omega), pk_un (by omega)]; exact q0
    · rw [pk_un (by omega), pk_un (by omega), pk_un (by omega)]; exact q1
    · rw [pk_un (by omega), pk_un (by omega), pk_un (by omega)]; exact q2
    · rw [pk_un (by omega), pk_un (by omega), pk_un (by omega)]; exact q3
    · rw [pk_un (by omega), pk_un (by omega), pk_un (by omega)]; exact q4
    · rw [pk_un (by omega), pk_un (by omega), pk_un (by omega)]; exact q5
    · rw [pk_un (by omega), pk_un (by omega), pk_us]; rfl
    · rw [pk_un (by omega), pk_us]
      show rv c k 6 + 1 = clR _ 6
      unfold clR
      rw [if_neg (by decide), if_pos (by decide), pk_us]
  · rw [pk_un (by omega), pk_un (by omega), pk_un (by omega), h.2.2, sFall_site (by omega), pk_un (by decide)]
theorem sFN_0 {c : zM} {k : Nat} (h : fFN (rv c k) = 0) : sFN c 0 k = c := by
  unfold sFN
  unfold fFN at h
  by_cases a : c (3 * k) 7 = 0
  · rw [if_pos a]
  · rw [if_neg a]
    by_cases b : fStands (rv c k) = 0
    · rw [if_neg (show ¬ rv c k 7 = 0 from a), if_pos b] at h; exact absurd h (by decide)
    · rw [if_neg b]
theorem sFN_1 {c : zM} {k : Nat} (h : fFN (rv c k) = 1) : sFN c 0 k = sFall c 0 k := by
  unfold sFN
  unfold fFN at h
  by_cases a : c (3 * k) 7 = 0
  · rw [if_pos (show rv c k 7 = 0 from a)] at h; exact absurd h (by decide)
  · rw [if_neg a]
    by_cases b : fStands (rv c k) = 0
    · rw [if_pos b]
    · rw [if_neg (show ¬ rv c k 7 = 0 from a), if_neg b] at h; exact absurd h (by decide)
theorem k_mfalls (l : Launch) (D : va_G) (am : Nat → Nat) (cI cR cS cL : ClassId) (dg : Int64) (mem : zM) {c : zM} (hok : zOK c) (hS : zS c (mem 1)) {k : Nat} (hk : k < 4) : zMi l yX6_falls wsX6_falls ({ frames := 4, cells := 0, slots := 0, locals := 97 }) D (cK cI cR cS cL) [.ref (am 0), .int (nI k)] (mw am cI dg mem) (fun r u => r = fFN (rv c k) ∧ zFr mem u ∧ zS (sFN c 0 k) (u 1)) (mw am cI dg) 0 0 := by
  obtain ⟨p, hp, hm⟩ := hS.1 k hk
  refine zMi_mono (k_mfalls0 l D am cI cR cS cL dg mem hk hm hp (hok k hk).1 rfl) ?_
  rintro r u (⟨h1, h2, h3⟩ | ⟨h1, h2, h3⟩)
  · rw [h1, h2, sFN_0 h1, h3.1 1 (by decide)]
    exact ⟨rfl, h3.fr, hS⟩
  · rw [h1, h2, sFN_1 h1, h3.1 1 (by decide)]
    refine ⟨rfl, ?_, zS_fall hk hS hp⟩
    refine zFr.trans ?_ h3.fr
    unfold mFall
    exact ((zFr_s _ _ _).trans (zFr_s _ _ _)).trans (zFr_s _ _ _)
