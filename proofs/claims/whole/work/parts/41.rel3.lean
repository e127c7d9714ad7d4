/-! a call, on both sides -/
theorem zR_mono {B B' : Nat} {c mm : zM} {q z L : Nat} (hB : B ≤ B') (h : zR B c mm q z L) : zR B' c mm q z L := by
  obtain ⟨a1, ⟨b1, b2, b3, b4, b5, b6⟩, d⟩ := h
  exact ⟨zSite_congr hB (fun _ _ => rfl) (fun _ _ => rfl) rfl rfl a1, ⟨b1, b2, b3, b4, b5, fun i hi => zSite_congr hB (fun _ _ => rfl) (fun _ _ => rfl) rfl rfl (b6 i hi)⟩, d⟩
/-- an answer of the class, and the reference's: its number r, its field thrown w -/
def mAns (cd : String → Int32) (P : zM → Prop) (S : zO) (r w : Int32) : Prop := (∃ E c', S = (.inl E, c') ∧ w = cd E ∧ P c') ∨ (∃ v c', S = (.inr v, c') ∧ w = 0 ∧ r = v ∧ P c')
def cdL (E : String) : Int32 := if E = "java/lang/IndexOutOfBoundsException" then 1 else if E = "java/lang/IllegalArgumentException" then 2 else 3
theorem zx4 {x : Int32} (h : ¬ (x < 0 ∨ 4 ≤ x)) : ∃ k, k < 4 ∧ x = nI k := by
  rcases pk_ix x (n := 4) (by decide) with a | a | ⟨j, hj, e⟩
  · exact absurd (Or.inl a) h
  · exact absurd (Or.inr a) h
  · exact ⟨j, hj, e⟩
theorem fIn_0 {v lo hi : Int32} (h : v < lo ∨ hi < v) : fIn v lo hi = 0 := by
  unfold fIn
  by_cases a : v < lo
  · rw [if_pos a]
  · rw [if_neg a, if_pos (h.resolve_left a)]
theorem fIn_1 {v lo hi : Int32} (h : ¬ (v < lo ∨ hi < v)) : fIn v lo hi = 1 := by
  unfold fIn
  rw [if_neg (fun a => h (Or.inl a)), if_neg (fun a => h (Or.inr a))]
theorem fIn_L0 {x : Int32} (h : x < 0 ∨ 4 ≤ x) : fIn x 0 3 = 0 := fIn_0 (h.elim Or.inl (fun a => Or.inr ((zltI (show (3 : Int32).toInt = 3 by decide) rfl).mpr (by have := (zleI (show (4 : Int32).toInt = 4 by decide) rfl).mp a; omega))))
theorem fIn_L1 {x : Int32} (h : ¬ (x < 0 ∨ 4 ≤ x)) : fIn x 0 3 = 1 := fIn_1 (fun q => h (q.elim Or.inl (fun a => Or.inr ((zleI (show (4 : Int32).toInt = 4 by decide) rfl).mpr (by have := (zltI (show (3 : Int32).toInt = 3 by decide) rfl).mp a; omega)))))
theorem k_msave (l : Launch) (D : va_G) (am : Nat → Nat) (cI cR cS cL : ClassId) (dg : Int64) (mem : zM) {z : Nat} (hz : z ≤ 6) (hm : mem 0 3 = nI z) : zMv l yX6_save wsX6_save ({ frames := 0, cells := 0, slots := 0, locals := 0 }) D (cK cI cR cS cL) [.ref (am 0)] (mw am cI dg mem) (fun u => u 1 = mem 1 ∧ u 3 = mem 3 ∧ u 0 = upd (mem 0) 3 (nI (if z < 6 then z + 1 else 6)) ∧ u 2 = mSv mem z) (mw am cI dg) 0 0 := by
  by_cases h : z < 6
  · exact k_msave1 l D am cI cR cS cL dg mem h hm
  · have : z = 6 := by omega
    subst this
    exact k_msave2 l D am cI cR cS cL dg mem hm
/-- a field of a rig is set -/
theorem zS_fld {c : zM} {s s' : Nat → Int32} {k n : Nat} {v : Int32} (hk : k < 4) (hn : n < 6) (h : zS c s) (e : s' = upd s (14 * k + n) v) : zS (mset c (3 * k) n v) s' := by
  obtain ⟨p, hp, hm⟩ := h.1 k hk
  have hrv := rv_fld (mem := c) (j := k) (show n < 8 by omega) v
  refine zS_rig (k := k) h (fun i hi ne => rv_ne (by omega) (by omega) (by omega)) (fun j hj ne => by rw [e, pk_un (by omega)]) (p := p) (by rw [hrv]; exact rPp_congr (fun j h7 _ => pk_un (by omega)) hp) ?_ (by rw [e, pk_un (by omega), mset_ne _ _ _ (by omega)]; exact h.2.1) (by rw [e, pk_un (by omega), mset_ne _ _ _ (by omega)]; exact h.2.2)
  rw [hrv]
  obtain ⟨q0, q1, q2, q3, q4, q5, q6, q7, qp⟩ := hm
  have key : ∀ j, j < 6 → s (14 * k + j) = rv c k j → s' (14 * k + j) = upd (rv c k) n v j := fun j hj q => by
    rw [e]
    by_cases ej : j = n
    · subst ej; rw [pk_us, pk_us]
    · rw [pk_un (by omega), pk_un ej]; exact q
  refine ⟨key 0 (by omega) q0, key 1 (by omega) q1, key 2 (by omega) q2, key 3 (by omega) q3, key 4 (by omega) q4, key 5 (by omega) q5, ?_, ?_, fun t ht => ?_⟩
  · rw [e, pk_un (by omega)]; exact q6
  · rw [e, pk_un (by omega), pk_un (by omega)]; exact q7
  · rw [e, pk_un (by omega), pk_un (by omega), pk_un (by omega), pk_un (by omega)]; exact qp t ht
theorem sFN_F {c : zM} {k F p : Nat} (hk : k < 4) (hF : c 87 1 = nI F) (hp : rPp (rv c k) p) : ∃ F', F' ≤ F + 3 ∧ sFN c 0 k 87 1 = nI F' := by
  have h3 := hp.1
  rcases fFN_01 (rv c k) with h | h
  · rw [sFN_0 h]; exact ⟨F, by omega, hF⟩
  · rw [sFN_1 h, sFall_site (by omega), pk_us, hF]
    have : c (3 * k) 7 = nI p := hp.2.1
    rw [this, nI_add]
    exact ⟨F + p, by omega, rfl⟩
/-- what follows a change of the rig k : it may fall -/
theorem zR_tail {B : Nat} {c1 c3 m1 m3 u : zM} {q z L k : Nat} (hk : k < 4) (h : zR B c1 m1 q z L) (hc : ∀ i, 12 ≤ i → c3 i = c1 i) (hok : zOK c3) (hS : zS (sFN c3 0 k) (u 1)) (f1 : zFr m1 m3) (f2 : zFr m3 u) : zR (B + 180) (sFN c3 0 k) u q z L := by
  obtain ⟨F, hF, e⟩ := h.1.2.1
  obtain ⟨-, p, hp⟩ := hok k hk
  obtain ⟨F', hF', e'⟩ := sFN_F (c := c3) (F := F) hk (by rw [hc 87 (by omega)]; exact e) hp
  have f := f1.trans f2
  exact zR_site (F := F') (by omega) h (fun i hi h87 => by rw [sFN_ne h87 (by omega) (by omega) (by omega)]; exact hc i hi) (zOK_FN hok hk) hS e' (by omega) f.1 f.2.1 (f.2.2 3 (by omega)) (f.2.2 5 (by omega))
theorem rFd_in {R : Nat → Int32} {v : Int32} (h : rFd R) : (¬ (v < 10 ∨ 100 < v) → rFd (upd R 0 v)) ∧ (¬ (v < 50 ∨ 300 < v) → rFd (upd R 1 v)) ∧ (¬ (v < 1 ∨ 100 < v) → rFd (upd R 2 v)) ∧ (¬ (v < 0 ∨ 3 < v) → rFd (upd R 3 v) ∧ rFd (upd R 4 v)) ∧ (¬ (v < 0 ∨ 200 < v) → rFd (upd R 5 v)) := by
  obtain ⟨h0, h1, h2, h3, h4, h5⟩ := h
  have key : ∀ {a b : Int32} {A C : Int}, a.toInt = A → b.toInt = C → ¬ (v < a ∨ b < v) → A ≤ v.toInt ∧ v.toInt ≤ C := fun ha hb hv => by
    rw [zltI rfl ha, zltI hb rfl] at hv
    omega
  refine ⟨fun hv => ?_, fun hv => ?_, fun hv => ?_, fun hv => ⟨?_, ?_⟩, fun hv => ?_⟩
  · have := key (A := 10) (C := 100) (by decide) (by decide) hv
    exact ⟨by rw [pk_us]; exact this, by rw [pk_un (by decide)]; exact h1, by rw [pk_un (by decide)]; exact h2, by rw [pk_un (by decide)]; exact h3, by rw [pk_un (by decide)]; exact h4, by rw [pk_un (by decide)]; exact h5⟩
  · have := key (A := 50) (C := 300) (by decide) (by decide) hv
    exact ⟨by rw [pk_un (by decide)]; exact h0, by rw [pk_us]; exact this, by rw [pk_un (by decide)]; exact h2, by rw [pk_un (by decide)]; exact h3, by rw [pk_un (by decide)]; exact h4, by rw [pk_un (by decide)]; exact h5⟩
  · have := key (A := 1) (C := 100) (by decide) (by decide) hv
    exact ⟨by rw [pk_un (by decide)]; exact h0, by rw [pk_un (by decide)]; exact h1, by rw [pk_us]; exact this, by rw [pk_un (by decide)]; exact h3, by rw [pk_un (by decide)]; exact h4, by rw [pk_un (by decide)]; exact h5⟩
  · have := key (A := 0) (C := 3) (by decide) (by decide) hv
    exact ⟨by rw [pk_un (by decide)]; exact h0, by rw [pk_un (by decide)]; exact h1, by rw [pk_un (by decide)]; exact h2, by rw [pk_us]; exact this, by rw [pk_un (by decide)]; exact h4, by rw [pk_un (by decide)]; exact h5⟩
  · have := key (A := 0) (C := 3) (by decide) (by decide) hv
    exact ⟨by rw [pk_un (by decide)]; exact h0, by rw [pk_un (by decide)]; exact h1, by rw [pk_un (by decide)]; exact h2, by rw [pk_un (by decide)]; exact h3, by rw [pk_us]; exact this, by rw [pk_un (by decide)]; exact h5⟩
  · have := key (A := 0) (C := 200) (by decide) (by decide) hv
    exact ⟨by rw [pk_un (by decide)]; exact h0, by rw [pk_un (by decide)]; exact h1, by rw [pk_un (by decide)]; exact h2, by rw [pk_un (by decide)]; exact h3, by rw [pk_un (by decide)]; exact h4, by rw [pk_us]; exact this⟩
