/-! the class's automaton and the reference's reader, character by character -/
/-- the class's row after n characters from the place q -/
def rr (cs r : Nat → Int32) (q : Nat) : Nat → Nat → Int32
  | 0 => r
  | n + 1 => rTk (rr cs r q n) (cs (q + n))
theorem rr_0 (cs r : Nat → Int32) (q : Nat) : rr cs r q 0 = r := by rw [rr]
theorem rr_s (cs r : Nat → Int32) (q n : Nat) : rr cs r q (n + 1) = rTk (rr cs r q n) (cs (q + n)) := by rw [rr]
theorem rr_add (cs r : Nat → Int32) (q a : Nat) : ∀ b, rr cs r q (a + b) = rr cs (rr cs r q a) (q + a) b
  | 0 => by rw [rr_0]; rfl
  | b + 1 => by
    rw [show a + (b + 1) = (a + b) + 1 by omega, rr_s, rr_add cs r q a b, rr_s, show q + (a + b) = q + a + b by omega]
theorem rdN_rr (cs r0 : Nat → Int32) : ∀ k, rdN cs r0 k = rr cs (rStart r0) 0 k
  | 0 => by rw [rdN, rr_0]
  | k + 1 => by rw [rdN, rr_s, rdN_rr cs r0 k, Nat.zero_add]
theorem rdS_rr (cs r0 : Nat → Int32) (q : Nat) : ∀ k, rdS cs r0 q k = rr cs (rStart r0) q k
  | 0 => by rw [rdS, rr_0]
  | k + 1 => by rw [rdS, rr_s, rdS_rr cs r0 q k]
theorem rStart_0 (r : Nat → Int32) : rStart r 0 = 0 := by
  unfold rStart
  rw [pk_un (by decide), pk_us]
theorem rStart_5 (r : Nat → Int32) : rStart r 5 = 0 := by
  unfold rStart
  rw [pk_us]
/-- codes -/
def zCd (cs : Nat → Int32) (L : Nat) : Prop := ∀ i, i < L → ∃ n : Nat, 33 ≤ n ∧ n ≤ 126 ∧ cs i = nI n
/-- a number that goes on: class and reference alike -/
theorem mul10 (v : Int32) : 10 * (10 * v) = 100 * v := by rw [← Int32.mul_assoc]; rfl
theorem mul109 (v : Int32) : 10 * (10 * v + 9) + 9 = 100 * v + 99 := by
  rw [Int32.mul_add, mul10, Int32.add_assoc]; rfl
theorem fCan_Bg {r : Nat → Int32} {v lo hi : Int32} (h1 : r 1 = lo) (h2 : r 2 = hi) (hv : ¬ v = 0) : fCan r v = 0 ↔ fBg v lo hi = 0 := by
  have hl : lo ≤ 10 * v + 9 ↔ ¬ 10 * v + 9 < lo := by
    rw [Int32.le_iff_toInt_le, Int32.lt_iff_toInt_lt]; omega
  unfold fCan
  simp only [fCanN, h1, h2, if_neg hv, mul10, mul109]
  unfold fBg fIn
  by_cases a : hi < v
  · have q0 : (if v < lo then (0 : Int32) else if hi < v then 0 else 1) = 0 := by
      by_cases b : v < lo
      · rw [if_pos b]
      · rw [if_neg b, if_pos a]
    rw [if_pos a, if_pos q0]
    by_cases c1 : hi < 10 * v
    · rw [if_pos c1, if_pos c1]
      
    · rw [if_neg c1, if_neg c1]
      by_cases c2 : 10 * v + 9 < lo
      · rw [if_pos c2, if_neg (fun q => hl.mp q c2)]
      · rw [if_neg c2, if_pos (hl.mpr c2)]
  · rw [if_neg a]
    by_cases b : v < lo
    · rw [if_pos b, if_pos (show (if v < lo then (0 : Int32) else if hi < v then 0 else 1) = 0 from if_pos b)]
      by_cases c1 : hi < 10 * v
      · rw [if_pos c1, if_pos c1]
      · rw [if_neg c1, if_neg c1]
        by_cases c2 : 10 * v + 9 < lo
        · rw [if_pos c2, if_neg (fun q => hl.mp q c2)]
        · rw [if_neg c2, if_pos (hl.mpr c2)]
    · rw [if_neg b, if_neg (show ¬ (if v < lo then (0 : Int32) else if hi < v then 0 else 1) = 0 from by rw [if_neg b, if_neg a]; decide)]
/-- what begins a number is no greater than its range -/
theorem fBg_le {n hi : Nat} {lo : Int32} (hn : n ≤ 100000) (h : hi ≤ 200) (hb : ¬ fBg (nI n) lo (nI hi) = 0) : n ≤ hi := by
  apply Nat.le_of_not_lt
  intro g
  apply hb
  have e1 : 10 * nI n = nI (10 * n) := by rw [show (10 : Int32) = nI 10 from rfl, pk_mul]
  have e2 : 100 * nI n = nI (100 * n) := by rw [show (100 : Int32) = nI 100 from rfl, pk_mul]
  unfold fBg fIn
  rw [e1, e2]
  have g0 : nI hi < nI n := (nI_ltI (by omega) (by omega)).mpr g
  have g1 : nI hi < nI (10 * n) := (nI_ltI (by omega) (by omega)).mpr (by omega)
  have g2 : nI hi < nI (100 * n) := (nI_ltI (by omega) (by omega)).mpr (by omega)
  have q0 : (if nI n < lo then (0 : Int32) else if nI hi < nI n then 0 else 1) = 0 := by
    by_cases b : nI n < lo
    · rw [if_pos b]
    · rw [if_neg b, if_pos g0]
  rw [if_pos q0, if_pos g1, if_pos g2]
/-- one more digit, both sides -/
theorem tk3 {r : Nat → Int32} {c : Int32} (h : r 0 = 3) : fTk r c = (if c = 59 then fTS r else if r 5 = 0 then 0 else if fTD r c = 0 then 0 else 1) ∧ rTk r c = (if c = 59 then rTS r else if r 5 = 0 then r else rTD r c) := by
  constructor
  · unfold fTk
    rw [h, if_neg (by decide), if_neg (by decide), if_neg (by decide), if_pos rfl]
  · unfold rTk
    rw [h, if_neg (by decide), if_neg (by decide), if_neg (by decide), if_pos rfl]
theorem c59 {n : Nat} (h : n ≤ 126) : nI n = 59 ↔ n = 59 := by
  constructor
  · intro e
    have e2 : (nI n).toInt = (59 : Int32).toInt := by rw [e]
    rw [nI_toInt (by omega), show (59 : Int32).toInt = 59 by decide] at e2
    omega
  · rintro rfl
    rfl
theorem dg_v {n k : Nat} (h : 48 ≤ k) : 10 * nI n + nI k - 48 = nI (10 * n + (k - 48)) := by
  rw [show (10 : Int32) = nI 10 from rfl, pk_mul, nI_add, show 10 * n + k = (10 * n + (k - 48)) + 48 by omega, ← nI_add, show (48 : Int32) = nI 48 from rfl]
  rw [Int32.sub_eq_add_neg, Int32.add_assoc, ← Int32.sub_eq_add_neg, Int32.sub_self, Int32.add_zero]
theorem zDg {cs : Nat → Int32} {L : Nat} (hc : zCd cs L) {lo hi : Nat} (hlo : lo ≤ 200) (hh : hi ≤ 200) : ∀ (f P n : Nat) (R : Nat → Int32), P + f = L → R 0 = 3 → R 1 = nI lo → R 2 = nI hi → R 5 = nI n → n ≤ 200 → ∃ k n', mDig cs L (nI lo) (nI hi) f P (nI n) = (P + k, nI n') ∧ P + k ≤ L ∧ n' ≤ 200 ∧ (∀ i, i < k → ¬ fTk (rr cs R P i) (cs (P + i)) = 0 ∧ ¬ cs (P + i) = 59) ∧ rr cs R P k 0 = 3 ∧ rr cs R P k 1 = nI lo ∧ rr cs R P k 2 = nI hi ∧ rr cs R P k 3 = R 3 ∧ rr cs R P k 4 = R 4 ∧ rr cs R P k 5 = nI n' ∧ (P + k < L → ¬ cs (P + k) = 59 → fTk (rr cs R P k) (cs (P + k)) = 0)
  | 0, P, n, R, hP, h0, h1, h2, h5, hn => ⟨0, n, by rw [mDig]; rfl, by omega, hn, fun i hi => absurd hi (Nat.not_lt_zero i), by rw [rr_0]; exact h0, by rw [rr_0]; exact h1, by rw [rr_0]; exact h2, by rw [rr_0], by rw [rr_0], by rw [rr_0]; exact h5, fun h => absurd h (by omega)⟩
  | f + 1, P, n, R, hP, h0, h1, h2, h5, hn => by
    have hPL : P < L := by omega
    obtain ⟨c, hc1, hc2, hcs⟩ := hc P hPL
    rw [mDig_s]
    -- where it stops
    have stop : ∀ (hs : ¬ nI c = 59 → fTk R (nI c) = 0), ∃ k n', (P, nI n) = (P + k, nI n') ∧ P + k ≤ L ∧ n' ≤ 200 ∧ (∀ i, i < k → ¬ fTk (rr cs R P i) (cs (P + i)) = 0 ∧ ¬ cs (P + i) = 59) ∧ rr cs R P k 0 = 3 ∧ rr cs R P k 1 = nI lo ∧ rr cs R P k 2 = nI hi ∧ rr cs R P k 3 = R 3 ∧ rr cs R P k 4 = R 4 ∧ rr cs R P k 5 = nI n' ∧ (P + k < L → ¬ cs (P + k) = 59 → fTk (rr cs R P k) (cs (P + k)) = 0) := fun hs => ⟨0, n, rfl, by omega, hn, fun i hi => absurd hi (Nat.not_lt_zero i), by rw [rr_0]; exact h0, by rw [rr_0]; exact h1, by rw [rr_0]; exact h2, by rw [rr_0], by rw [rr_0], by rw [rr_0]; exact h5, fun _ => by rw [Nat.add_zero, hcs, rr_0]; exact hs⟩
    rw [if_pos hPL, hcs]
    by_cases hd : nI c < 48 ∨ 57 < nI c
    · rw [if_pos hd, if_pos rfl]
      refine stop (fun ne => ?_)
      rw [(tk3 h0).1, if_neg ne]
      have : fTD R (nI c) = 0 := by
        unfold fTD
        rcases hd with q | q
        · rw [if_pos q]
        · have q' : ¬ nI c ≤ 57 := fun z => by
            have a := (nI_ltI (a := 57) (b := c) (by omega) (by omega)).mp q
            have b := (nI_leI (a := c) (b := 57) (by omega) (by omega)).mp z
            omega
          by_cases w : nI c < 48
          · rw [if_pos w]
          · rw [if_neg w, if_neg q']
      rw [this, if_pos rfl]
      by_cases w : R 5 = 0
      · rw [if_pos w]
      · rw [if_neg w]
    · rw [if_neg hd]
      have d1 : 48 ≤ c := Nat.le_of_not_lt (fun g => hd (Or.inl ((nI_ltI (a := c) (b := 48) (by omega) (by omega)).mpr g)))
      have d2 : c ≤ 57 := Nat.le_of_not_lt (fun g => hd (Or.inr ((nI_ltI (a := 57) (b := c) (by omega) (by omega)).mpr g)))
      have ne : ¬ nI c = 59 := fun e => by have := (c59 (by omega)).mp e; omega
      by_cases hz : nI n ≤ 0
      · rw [if_pos hz, if_pos rfl]
        have n0 : n = 0 := by have := (nI_leI (a := n) (b := 0) (by omega) (by omega)).mp hz; omega
        refine stop (fun ne => ?_)
        rw [(tk3 h0).1, if_neg ne, if_pos (by rw [h5, n0]; rfl)]
      · rw [if_neg hz]
        have n1 : 1 ≤ n := Nat.pos_of_ne_zero (fun e => hz (by rw [e]; decide))
        have n5 : ¬ R 5 = 0 := fun e => by
          rw [h5] at e
          have e2 : (nI n).toInt = (0 : Int32).toInt := by rw [e]
          rw [nI_toInt (by omega), show (0 : Int32).toInt = 0 by decide] at e2
          omega
        have hv := dg_v (n := n) d1
        have vne : ¬ nI (10 * n + (c - 48)) = 0 := fun e => by
          have e2 : (nI (10 * n + (c - 48))).toInt = (0 : Int32).toInt := by rw [e]
          rw [nI_toInt (by omega), show (0 : Int32).toInt = 0 by decide] at e2
          omega
        have hcan := fCan_Bg (r := R) (v := nI (10 * n + (c - 48))) h1 h2 vne
        have w1 : ¬ nI c < 48 := fun q => hd (Or.inl q)
        have w2 : nI c ≤ 57 := (nI_leI (a := c) (b := 57) (by omega) (by omega)).mpr d2
        rw [hv]
        by_cases hb : fBg (nI (10 * n + (c - 48))) (nI lo) (nI hi) = 0
        · rw [if_pos hb, if_pos rfl]
          refine stop (fun ne => ?_)
          rw [(tk3 h0).1, if_neg ne, if_neg n5]
          have : fTD R (nI c) = 0 := by
            unfold fTD
            rw [if_neg w1, if_pos w2, h5, hv, if_pos (hcan.mpr hb)]
          rw [this, if_pos rfl]
        · rw [if_neg hb, if_neg (by decide)]
          have cne : ¬ fCan R (10 * R 5 + nI c - 48) = 0 := by
            rw [h5, hv]
            exact fun q => hb (hcan.mp q)
          have ftd : fTD R (nI c) = 1 := by
            unfold fTD
            rw [if_neg w1, if_pos w2, if_neg cne]
          have rtd : rTk R (nI c) = upd (upd R 5 (nI (10 * n + (c - 48)))) 0 3 := by
            rw [(tk3 h0).2, if_neg ne, if_neg n5]
            unfold rTD
            rw [if_neg w1, if_pos w2, if_neg cne, h5, hv]
          have nle := fBg_le (n := 10 * n + (c - 48)) (hi := hi) (lo := nI lo) (by omega) hh hb
          obtain ⟨k, n', e1, e2, e3, e4, e5, e6, e7, e8, e9, e10, e11⟩ := zDg hc hlo hh f (P + 1) (10 * n + (c - 48)) (upd (upd R 5 (nI (10 * n + (c - 48)))) 0 3) (by omega) pk_us (by rw [pk_un (by decide), pk_un (by decide)]; exact h1) (by rw [pk_un (by decide), pk_un (by decide)]; exact h2) (by rw [pk_un (by decide), pk_us]) (by omega)
          have hrr : ∀ i, rr cs R P (i + 1) = rr cs (upd (upd R 5 (nI (10 * n + (c - 48)))) 0 3) (P + 1) i := fun i => by
            rw [Nat.add_comm i 1, rr_add, rr_s, rr_0, Nat.add_zero, hcs, rtd]
          refine ⟨k + 1, n', by rw [e1, show P + 1 + k = P + (k + 1) by omega], by omega, e3, fun i hi => ?_, by rw [hrr]; exact e5, by rw [hrr]; exact e6, by rw [hrr]; exact e7, by rw [hrr, e8, pk_un (by decide), pk_un (by decide)], by rw [hrr, e9, pk_un (by decide), pk_un (by decide)], by rw [hrr]; exact e10, fun hl => ?_⟩
          · rcases i with _ | i
            · rw [rr_0, Nat.add_zero, hcs, (tk3 h0).1, if_neg ne, if_neg n5, ftd]
              exact ⟨by decide, ne⟩
            · rw [hrr, show P + (i + 1) = P + 1 + i by omega]
              exact e4 i (by omega)
          · rw [hrr, show P + (k + 1) = P + 1 + k by omega]
            exact e11 (by omega)
/-- the first digit -/
theorem zD1 {R : Nat → Int32} {w : Int32} (hw : w = 117 ∨ w = 111 ∨ w = 114) (h0 : R 0 = 2) (h1 : R 1 = zLoW w) (h2 : R 2 = zHiW w) (h5 : R 5 = 0) {c : Nat} (hc : c ≤ 126) : (fTk R (nI c) = 0 ↔ nI c < zLo (zLoW w) ∨ 57 < nI c) ∧ (¬ fTk R (nI c) = 0 → rTk R (nI c) = upd (upd R 5 (nI (c - 48))) 0 3) := by
  have f : fTk R (nI c) = fTD R (nI c) := by
    unfold fTk
    rw [h0, if_neg (by decide), if_neg (by decide), if_pos rfl]
  have g : rTk R (nI c) = rTD R (nI c) := by
    unfold rTk
    rw [h0, if_neg (by decide), if_neg (by decide), if_pos rfl]
  have lo48 : zLo (zLoW w) = nI 48 ∨ zLo (zLoW w) = nI 49 := by
    rcases hw with rfl | rfl | rfl
    · exact Or.inl (by decide)
    · exact Or.inr (by decide)
    · exact Or.inl (by decide)
  rw [f, g]
  by_cases a : nI c < 48
  · have a' := (nI_ltI (a := c) (b := 48) (by omega) (by omega)).mp a
    have e : fTD R (nI c) = 0 := by unfold fTD; rw [if_pos a]
    refine ⟨⟨fun _ => Or.inl ?_, fun _ => e⟩, fun h => absurd e h⟩
    rcases lo48 with q | q <;> rw [q] <;> exact (nI_ltI (by omega) (by omega)).mpr (by omega)
  · have a' := Nat.le_of_not_lt (fun g => a ((nI_ltI (a := c) (b := 48) (by omega) (by omega)).mpr g))
    by_cases b : nI c ≤ 57
    · have b' := (nI_leI (a := c) (b := 57) (by omega) (by omega)).mp b
      have nb : ¬ 57 < nI c := fun z => by have := (nI_ltI (a := 57) (b := c) (by omega) (by omega)).mp z; omega
      have e0 : 10 * R 5 + nI c - 48 = nI (c - 48) := by
        rw [h5, show (0 : Int32) = nI 0 from rfl, dg_v a', show 10 * 0 + (c - 48) = c - 48 by omega]
      obtain ⟨d, rfl⟩ : ∃ d, c = d + 48 := ⟨c - 48, by omega⟩
      have hd : d ≤ 9 := by omega
      have key : (fCan R (nI d) = 0 ↔ nI (d + 48) < zLo (zLoW w)) := by
        have hcn : fCan R (nI d) = fCanN (fun k => if k = 1 then zLoW w else zHiW w) (nI d) 3 (nI d) (nI d) := by
          unfold fCan
          simp only [fCanN, h1, h2]
          rfl
        rw [hcn]
        clear hcn
        rcases hw with rfl | rfl | rfl <;> rcases (show d = 0 ∨ d = 1 ∨ d = 2 ∨ d = 3 ∨ d = 4 ∨ d = 5 ∨ d = 6 ∨ d = 7 ∨ d = 8 ∨ d = 9 by omega) with rfl | rfl | rfl | rfl | rfl | rfl | rfl | rfl | rfl | rfl <;> decide
      unfold fTD rTD
      rw [if_neg a, if_pos b, if_neg a, if_pos b, e0, show d + 48 - 48 = d by omega]
      by_cases k : fCan R (nI d) = 0
      · rw [if_pos k]
        exact ⟨⟨fun _ => Or.inl (key.mp k), fun _ => rfl⟩, fun h => absurd rfl h⟩
      · rw [if_neg k, if_neg k]
        exact ⟨⟨fun h => absurd h (by decide), fun h => absurd (h.resolve_right nb) (fun q => k (key.mpr q))⟩, fun _ => rfl⟩
    · have e : fTD R (nI c) = 0 := by unfold fTD; rw [if_neg a, if_neg b]
      refine ⟨⟨fun _ => Or.inr ?_, fun _ => e⟩, fun h => absurd e h⟩
      have b' : ¬ c ≤ 57 := fun z => b ((nI_leI (a := c) (b := 57) (by omega) (by omega)).mpr z)
      exact (nI_ltI (a := 57) (b := c) (by omega) (by omega)).mpr (by omega)
/-- a part from the place P: taken up to P + k, and there wrong; or read, to P + k -/
def zBd (cs : Nat → Int32) (L P k : Nat) (r : Nat → Int32) : Prop := (∀ i, i < k → ¬ fTk (rr cs r P i) (cs (P + i)) = 0 ∧ ¬ cs (P + i) = 59) ∧ fPW (rr cs r P k) = 0 ∧ (P + k < L → fTk (rr cs r P k) (cs (P + k)) = 0)
def zGd (cs : Nat → Int32) (L P k : Nat) (r : Nat → Int32) : Prop := (∀ i, i < k → ¬ fTk (rr cs r P i) (cs (P + i)) = 0 ∧ ¬ cs (P + i) = 59) ∧ ¬ fPW (rr cs r P k) = 0 ∧ (rr cs r P k 0 = 3 ∨ rr cs r P k 0 = 4) ∧ (P + k < L → ¬ cs (P + k) = 59 → fTk (rr cs r P k) (cs (P + k)) = 0)
def zRw (R : Nat → Int32) (j v : Nat) (w : Int32) : Prop := R 3 = nI j ∧ R 4 = w ∧ R 5 = nI v ∧ ((w = 111 ∧ 20 ≤ v ∧ v ≤ 150) ∨ (w = 114 ∧ v ≤ 200) ∨ (w = 117 ∧ v ≤ 10) ∨ w = 120)
/-- a read part -/
def zOp (cs : Nat → Int32) (L P k j v : Nat) (w : Int32) : Prop := j < 4 ∧ 2 ≤ k ∧ P + k ≤ L ∧ ∀ r, r 0 = 0 → r 5 = 0 → zGd cs L P k r ∧ zRw (rr cs r P k) j v w
theorem tk0 {r : Nat → Int32} {c : Int32} (h : r 0 = 0) : fTk r c = fTL c ∧ rTk r c = rTL r c := ⟨by unfold fTk; rw [if_pos h], by unfold rTk; rw [if_pos h]⟩
theorem tk1 {r : Nat → Int32} {c : Int32} (h : r 0 = 1) : fTk r c = fTW c ∧ rTk r c = rTW r c := ⟨by unfold fTk; rw [h, if_neg (by decide), if_pos rfl], by unfold rTk; rw [h, if_neg (by decide), if_pos rfl]⟩
theorem tk4 {r : Nat → Int32} {c : Int32} (h : r 0 = 4) : fTk r c = (if c = 59 then (if fTS r = 0 then 0 else 1) else 0) := by
  unfold fTk
  rw [h, if_neg (by decide), if_neg (by decide), if_neg (by decide), if_neg (by decide)]
theorem fPW_no {r : Nat → Int32} (h : r 0 = 0 ∨ r 0 = 1 ∨ r 0 = 2) : fPW r = 0 := by
  unfold fPW
  rcases h with h | h | h <;> rw [h, if_neg (by decide), if_neg (by decide)]
theorem zGd_59 {cs : Nat → Int32} {L P k : Nat} {r : Nat → Int32} (h : zGd cs L P k r) : fTk (rr cs r P k) 59 = 1 ∧ rTk (rr cs r P k) 59 = rStart (rr cs r P k) := by
  obtain ⟨-, h1, h2, -⟩ := h
  have e : fTS (rr cs r P k) = 1 := by unfold fTS; rw [if_neg h1]
  rcases h2 with h2 | h2
  · rw [(tk3 h2).1, (tk3 h2).2, if_pos rfl, if_pos rfl, e]
    exact ⟨rfl, by unfold rTS; rw [if_neg h1]⟩
  · rw [tk4 h2, if_pos rfl, e, if_neg (by decide)]
    refine ⟨rfl, ?_⟩
    unfold rTk
    rw [h2, if_neg (by decide), if_neg (by decide), if_neg (by decide), if_neg (by decide), if_pos rfl]
    unfold rTS
    rw [if_neg h1]
def zCs (cs : Nat → Int32) (L i : Nat) : Int32 := if i < L then cs i else 0
theorem mDig_congr {t cs : Nat → Int32} {L : Nat} (h : ∀ i, i < L → t i = cs i) (lo hi : Int32) : ∀ f P N, mDig t L lo hi f P N = mDig cs L lo hi f P N
  | 0, P, N => by rw [mDig, mDig]
  | f + 1, P, N => by
    rw [mDig_s, mDig_s]
    by_cases q : P < L
    · rw [h P q, mDig_congr h lo hi f (P + 1)]
    · rw [if_neg q, if_neg q, if_pos rfl, if_pos rfl]
theorem fTL_ok {c : Nat} (hc : c ≤ 126) : fTL (nI c) = 0 ↔ nI c < 48 ∨ 51 < nI c := by
  unfold fTL
  by_cases a : nI c < 48
  · rw [if_pos a]; exact ⟨fun _ => Or.inl a, fun _ => rfl⟩
  · rw [if_neg a]
    by_cases b : nI c < 52
    · rw [if_pos b]
      have := (nI_ltI (a := c) (b := 52) (by omega) (by omega)).mp b
      refine ⟨fun q => absurd q (by decide), fun q => absurd (q.resolve_left a) (fun z => ?_)⟩
      have := (nI_ltI (a := 51) (b := c) (by omega) (by omega)).mp z
      omega
    · rw [if_neg b]
      refine ⟨fun _ => Or.inr ?_, fun _ => rfl⟩
      exact (nI_ltI (a := 51) (b := c) (by omega) (by omega)).mpr (Nat.lt_of_not_le (fun z => b ((nI_ltI (a := c) (b := 52) (by omega) (by omega)).mpr (by omega))))
/-- what readPart does, and the class -/
theorem zPart {cs : Nat → Int32} {L P : Nat} (hc : zCd cs L) (hP : P ≤ L) {mem u : zM} (ht : ∀ i, i < L → mem 3 i = cs i) (h : pRP mem u P L (zCs cs L P) (zCs cs L (P + 1)) (zCs cs L (P + 2))) :
    (u 0 11 = 1 ∧ ∃ k, u 0 10 = nI (P + k) ∧ P + k ≤ L ∧ ∀ r, r 0 = 0 → r 5 = 0 → zBd cs L P k r) ∨ (u 0 11 = 0 ∧ ∃ k j v, u 0 10 = nI (P + k) ∧ u 0 12 = nI j ∧ (¬ u 0 13 = 120 → u 0 14 = nI v) ∧ zOp cs L P k j v (u 0 13)) := by
  obtain ⟨-, h⟩ := h
  by_cases b0 : zCs cs L P < 48 ∨ 51 < zCs cs L P
  · -- no ladder
    rcases h with ⟨-, h11, h10⟩ | ⟨q, -⟩ | ⟨q, -⟩
    · refine Or.inl ⟨h11, 0, h10, hP, fun r r0 r5 => ⟨fun i hi => absurd hi (Nat.not_lt_zero i), by rw [rr_0]; exact fPW_no (Or.inl r0), fun hl => ?_⟩⟩
      obtain ⟨c, c1, c2, ce⟩ := hc P hl
      rw [rr_0, Nat.add_zero, (tk0 r0).1, ce]
      unfold zCs at b0
      rw [if_pos (show P < L from hl), ce] at b0
      exact (fTL_ok c2).mpr b0
    · exact absurd b0 q
    · exact absurd b0 q
  · have hPL : P < L := Decidable.byContradiction (fun q => b0 (Or.inl (by unfold zCs; rw [if_neg q]; decide)))
    obtain ⟨c, c1, c2, ce⟩ := hc P hPL
    have eC : zCs cs L P = nI c := by unfold zCs; rw [if_pos hPL, ce]
    rw [eC] at b0 h
    have d1 : 48 ≤ c := Nat.le_of_not_lt (fun g => b0 (Or.inl ((nI_ltI (a := c) (b := 48) (by omega) (by omega)).mpr g)))
    have d2 : c ≤ 51 := Nat.le_of_not_lt (fun g => b0 (Or.inr ((nI_ltI (a := 51) (b := c) (by omega) (by omega)).mpr g)))
    have ej : nI c - 48 = nI (c - 48) := by
      rw [show nI c = nI ((c - 48) + 48) by rw [show c - 48 + 48 = c by omega], ← nI_add, show (48 : Int32) = nI 48 from rfl, Int32.sub_eq_add_neg, Int32.add_assoc, ← Int32.sub_eq_add_neg, Int32.sub_self, Int32.add_zero]
    have n59 : ¬ cs P = 59 := fun e => by rw [ce] at e; have := (c59 c2).mp e; omega
    -- the row behind the ladder
    have row1 : ∀ r : Nat → Int32, r 0 = 0 → rr cs r P 1 = upd (upd r 3 (nI (c - 48))) 0 1 := fun r r0 => by
      rw [rr_s, rr_0, Nat.add_zero, (tk0 r0).2, ce]
      unfold rTL
      rw [if_neg (fun q => b0 (Or.inl q)), if_pos (show nI c < 52 from (nI_ltI (a := c) (b := 52) (by omega) (by omega)).mpr (by omega)), ej]
    have acc1 : ∀ r : Nat → Int32, r 0 = 0 → ¬ fTk (rr cs r P 0) (cs (P + 0)) = 0 ∧ ¬ cs (P + 0) = 59 := fun r r0 => by
      rw [rr_0, Nat.add_zero, (tk0 r0).1]
      exact ⟨fun q => b0 ((fTL_ok c2).mp (by rw [← ce]; exact q)), n59⟩
    rcases h with ⟨q, -⟩ | ⟨-, -, w1, w2, w3, w4, h11, h10⟩ | ⟨-, hP1, h12, h13, hk⟩
    · exact absurd q b0
    · -- no work
      refine Or.inl ⟨h11, 1, h10, by omega, fun r r0 r5 => ⟨fun i hi => by rw [show i = 0 by omega]; exact acc1 r r0, by rw [row1 r r0]; exact fPW_no (Or.inr (Or.inl pk_us)), fun hl => ?_⟩⟩
      rw [row1 r r0, (tk1 pk_us).1]
      unfold zCs at w1 w2 w3 w4
      rw [if_pos hl] at w1 w2 w3 w4
      unfold fTW
      rw [if_neg w2, if_neg w3, if_neg w1, if_neg w4]
    · have eW : zCs cs L (P + 1) = cs (P + 1) := by unfold zCs; rw [if_pos hP1]
      rw [eW] at h13 hk
      have hwk : cs (P + 1) = 120 ∨ cs (P + 1) = 117 ∨ cs (P + 1) = 111 ∨ cs (P + 1) = 114 := by
        rcases hk with ⟨q, -⟩ | ⟨q, -⟩
        · exact Or.inl q
        · exact Or.inr q
      have acc2 : ∀ r : Nat → Int32, r 0 = 0 → ¬ fTk (rr cs r P 1) (cs (P + 1)) = 0 ∧ ¬ cs (P + 1) = 59 := fun r r0 => by
        rw [row1 r r0, (tk1 pk_us).1]
        rcases hwk with q | q | q | q <;> rw [q] <;> decide
      rw [ej] at h12
      rcases hk with ⟨wx, h11, h10⟩ | ⟨ww, hk⟩
      · -- x
        have row2 : ∀ r : Nat → Int32, r 0 = 0 → rr cs r P 2 = upd (upd (upd (upd r 3 (nI (c - 48))) 0 1) 4 120) 0 4 := fun r r0 => by
          rw [rr_s, row1 r r0, (tk1 pk_us).2, wx]
          unfold rTW
          rw [if_neg (by decide), if_neg (by decide), if_neg (by decide), if_pos rfl]
        refine Or.inr ⟨h11, 2, c - 48, 0, h10, h12, fun q => absurd (h13.trans wx) q, by omega, by omega, by omega, fun r r0 r5 => ⟨⟨fun i hi => ?_, ?_, Or.inr (by rw [row2 r r0, pk_us]), fun hl ne => ?_⟩, ?_⟩⟩
        · rcases (show i = 0 ∨ i = 1 by omega) with rfl | rfl
          · exact acc1 r r0
          · exact acc2 r r0
        · rw [row2 r r0]
          unfold fPW
          rw [pk_us, if_pos rfl]
          decide
        · rw [tk4 (by rw [row2 r r0, pk_us]), if_neg ne]
        · rw [h13, wx, row2 r r0]
          exact ⟨by rw [pk_un (by decide), pk_un (by decide), pk_un (by decide), pk_us], by rw [pk_un (by decide), pk_us], by rw [pk_un (by decide), pk_un (by decide), pk_un (by decide), pk_un (by decide), r5]; rfl, Or.inr (Or.inr (Or.inr rfl))⟩
      · -- a number
        have row2 : ∀ r : Nat → Int32, r 0 = 0 → rr cs r P 2 = rSN (upd (upd r 3 (nI (c - 48))) 0 1) (cs (P + 1)) (zLoW (cs (P + 1))) (zHiW (cs (P + 1))) := fun r r0 => by
          rw [rr_s, row1 r r0, (tk1 pk_us).2]
          unfold rTW
          rcases ww with q | q | q <;> rw [q]
          · rw [if_neg (by decide), if_neg (by decide), if_pos rfl]; rfl
          · rw [if_pos rfl]; rfl
          · rw [if_neg (by decide), if_pos rfl]; rfl
        have r20 : ∀ r : Nat → Int32, r 0 = 0 → rr cs r P 2 0 = 2 := fun r r0 => by rw [row2 r r0]; unfold rSN; rw [pk_us]
        have r21 : ∀ r : Nat → Int32, r 0 = 0 → rr cs r P 2 1 = zLoW (cs (P + 1)) := fun r r0 => by rw [row2 r r0]; unfold rSN; rw [pk_un (by decide), pk_un (by decide), pk_us]
        have r22 : ∀ r : Nat → Int32, r 0 = 0 → rr cs r P 2 2 = zHiW (cs (P + 1)) := fun r r0 => by rw [row2 r r0]; unfold rSN; rw [pk_un (by decide), pk_us]
        have r23 : ∀ r : Nat → Int32, r 0 = 0 → rr cs r P 2 3 = nI (c - 48) := fun r r0 => by rw [row2 r r0]; unfold rSN; rw [pk_un (by decide), pk_un (by decide), pk_un (by decide), pk_un (by decide), pk_un (by decide), pk_us]
        have r24 : ∀ r : Nat → Int32, r 0 = 0 → rr cs r P 2 4 = cs (P + 1) := fun r r0 => by rw [row2 r r0]; unfold rSN; rw [pk_un (by decide), pk_un (by decide), pk_un (by decide), pk_us]
        have r25 : ∀ r : Nat → Int32, r 0 = 0 → r 5 = 0 → rr cs r P 2 5 = 0 := fun r r0 r5 => by rw [row2 r r0]; unfold rSN; rw [pk_un (by decide), pk_un (by decide), pk_un (by decide), pk_un (by decide), pk_un (by decide), pk_un (by decide)]; exact r5
        rcases hk with ⟨bd, h11, h10⟩ | ⟨bd, hk⟩
        · -- no digit
          refine Or.inl ⟨h11, 2, h10, by omega, fun r r0 r5 => ⟨fun i hi => ?_, fPW_no (Or.inr (Or.inr (r20 r r0))), fun hl => ?_⟩⟩
          · rcases (show i = 0 ∨ i = 1 by omega) with rfl | rfl
            · exact acc1 r r0
            · exact acc2 r r0
          · obtain ⟨d, e1, e2, de⟩ := hc (P + 2) hl
            rw [de]
            unfold zCs at bd
            rw [if_pos hl, de] at bd
            exact (zD1 ww (r20 r r0) (r21 r r0) (r22 r r0) (r25 r r0 r5) e2).1.mpr bd
        · have hP2 : P + 2 < L := Decidable.byContradiction (fun q => bd (Or.inl (by unfold zCs; rw [if_neg q]; rcases ww with e | e | e <;> rw [e] <;> decide)))
          obtain ⟨d, e1, e2, de⟩ := hc (P + 2) hP2
          have eD : zCs cs L (P + 2) = nI d := by unfold zCs; rw [if_pos hP2, de]
          rw [eD] at bd hk
          have d48 : 48 ≤ d := Nat.le_of_not_lt (fun g => bd (Or.inl (by rcases ww with e | e | e <;> rw [e] <;> first | exact (nI_ltI (a := d) (b := 48) (by omega) (by omega)).mpr g | exact (nI_ltI (a := d) (b := 49) (by omega) (by omega)).mpr (by omega))))
          have d57 : d ≤ 57 := Nat.le_of_not_lt (fun g => bd (Or.inr ((nI_ltI (a := 57) (b := d) (by omega) (by omega)).mpr g)))
          have ed : nI d - 48 = nI (d - 48) := by
            rw [show nI d = nI ((d - 48) + 48) by rw [show d - 48 + 48 = d by omega], ← nI_add, show (48 : Int32) = nI 48 from rfl, Int32.sub_eq_add_neg, Int32.add_assoc, ← Int32.sub_eq_add_neg, Int32.sub_self, Int32.add_zero]
          rw [ed, mDig_congr ht] at hk
          obtain ⟨lo, hi, l2, h2, elo, ehi, hrange⟩ : ∃ lo hi : Nat, lo ≤ 200 ∧ hi ≤ 200 ∧ zLoW (cs (P + 1)) = nI lo ∧ zHiW (cs (P + 1)) = nI hi ∧ ∀ v, lo ≤ v → v ≤ hi → ((cs (P + 1) = 111 ∧ 20 ≤ v ∧ v ≤ 150) ∨ (cs (P + 1) = 114 ∧ v ≤ 200) ∨ (cs (P + 1) = 117 ∧ v ≤ 10) ∨ cs (P + 1) = 120) := by
            rcases ww with e | e | e <;> rw [e]
            · exact ⟨0, 10, by omega, by omega, by decide, by decide, fun v _ q => Or.inr (Or.inr (Or.inl ⟨rfl, q⟩))⟩
            · exact ⟨20, 150, by omega, by omega, by decide, by decide, fun v p q => Or.inl ⟨rfl, p, q⟩⟩
            · exact ⟨0, 200, by omega, by omega, by decide, by decide, fun v _ q => Or.inr (Or.inl ⟨rfl, q⟩)⟩
          -- the row behind the first digit
          have row3 : ∀ r : Nat → Int32, r 0 = 0 → r 5 = 0 → rr cs r P 3 = upd (upd (rr cs r P 2) 5 (nI (d - 48))) 0 3 ∧ (¬ fTk (rr cs r P 2) (cs (P + 2)) = 0) := fun r r0 r5 => by
            obtain ⟨x1, x2⟩ := zD1 ww (r20 r r0) (r21 r r0) (r22 r r0) (r25 r r0 r5) e2
            have ne : ¬ fTk (rr cs r P 2) (nI d) = 0 := fun q => bd (x1.mp q)
            rw [rr_s, de]
            exact ⟨x2 ne, ne⟩
          have n59d : ¬ cs (P + 2) = 59 := fun e => by rw [de] at e; have := (c59 e2).mp e; omega
          have key : ∀ r : Nat → Int32, r 0 = 0 → r 5 = 0 → ∃ k n', mDig cs L (nI lo) (nI hi) (L - (P + 3)) (P + 3) (nI (d - 48)) = (P + 3 + k, nI n') ∧ P + 3 + k ≤ L ∧ n' ≤ 200 ∧ (∀ i, i < 3 + k → ¬ fTk (rr cs r P i) (cs (P + i)) = 0 ∧ ¬ cs (P + i) = 59) ∧ rr cs r P (3 + k) 0 = 3 ∧ rr cs r P (3 + k) 1 = nI lo ∧ rr cs r P (3 + k) 2 = nI hi ∧ rr cs r P (3 + k) 3 = nI (c - 48) ∧ rr cs r P (3 + k) 4 = cs (P + 1) ∧ rr cs r P (3 + k) 5 = nI n' ∧ (P + (3 + k) < L → ¬ cs (P + (3 + k)) = 59 → fTk (rr cs r P (3 + k)) (cs (P + (3 + k))) = 0) := fun r r0 r5 => by
            obtain ⟨q1, q2⟩ := row3 r r0 r5
            obtain ⟨k, n', a1, a2, a3, a4, a5, a6, a7, a8, a9, a10, a11⟩ := zDg hc l2 h2 (L - (P + 3)) (P + 3) (d - 48) (rr cs r P 3) (by omega) (by rw [q1, pk_us]) (by rw [q1, pk_un (by decide), pk_un (by decide), r21 r r0, elo]) (by rw [q1, pk_un (by decide), pk_un (by decide), r22 r r0, ehi]) (by rw [q1, pk_un (by decide), pk_us]) (by omega)
            have e : ∀ i, rr cs (rr cs r P 3) (P + 3) i = rr cs r P (3 + i) := fun i => (rr_add cs r P 3 i).symm
            rw [e] at a5 a6 a7 a8 a9 a10 a11
            refine ⟨k, n', a1, a2, a3, fun i hi => ?_, a5, a6, a7, by rw [a8, q1, pk_un (by decide), pk_un (by decide), r23 r r0], by rw [a9, q1, pk_un (by decide), pk_un (by decide), r24 r r0], a10, fun hl ne => ?_⟩
            · by_cases i3 : i < 3
              · rcases (show i = 0 ∨ i = 1 ∨ i = 2 by omega) with rfl | rfl | rfl
                · exact acc1 r r0
                · exact acc2 r r0
                · exact ⟨q2, n59d⟩
              · obtain ⟨i', rfl⟩ : ∃ i', i = 3 + i' := ⟨i - 3, by omega⟩
                have := a4 i' (by omega)
                rw [e, show P + 3 + i' = P + (3 + i') by omega] at this
                exact this
            · rw [show P + (3 + k) = P + 3 + k by omega] at hl ne ⊢
              exact a11 hl ne
          obtain ⟨k, n', a1, a2, a3, -⟩ := key (fun _ => 0) rfl rfl
          have key2 : ∀ r : Nat → Int32, r 0 = 0 → r 5 = 0 → (∀ i, i < 3 + k → ¬ fTk (rr cs r P i) (cs (P + i)) = 0 ∧ ¬ cs (P + i) = 59) ∧ rr cs r P (3 + k) 0 = 3 ∧ rr cs r P (3 + k) 1 = nI lo ∧ rr cs r P (3 + k) 2 = nI hi ∧ rr cs r P (3 + k) 3 = nI (c - 48) ∧ rr cs r P (3 + k) 4 = cs (P + 1) ∧ rr cs r P (3 + k) 5 = nI n' ∧ (P + (3 + k) < L → ¬ cs (P + (3 + k)) = 59 → fTk (rr cs r P (3 + k)) (cs (P + (3 + k))) = 0) := fun r r0 r5 => by
            obtain ⟨k2, n2, b1, b2, b3, b⟩ := key r r0 r5
            rw [a1] at b1
            have x1 := congrArg Prod.fst b1
            have x2 := congrArg Prod.snd b1
            dsimp only at x1 x2
            have : k2 = k := by omega
            subst this
            rw [← x2] at b
            exact b
          rw [elo, ehi, show P + 2 + 1 = P + 3 by omega, a1] at hk
          dsimp only at hk
          obtain ⟨h10, h14, h11⟩ := hk
          have pw : ∀ r : Nat → Int32, r 0 = 0 → r 5 = 0 → fPW (rr cs r P (3 + k)) = if nI n' < nI lo ∨ nI hi < nI n' then 0 else 1 := fun r r0 r5 => by
            obtain ⟨-, x0, x1, x2, -, -, x5, -⟩ := key2 r r0 r5
            unfold fPW
            rw [x0, if_neg (by decide), if_pos rfl, x1, x2, x5]
            by_cases y : nI n' < nI lo
            · rw [if_pos y, if_pos (Or.inl y)]
            · rw [if_neg y]
              by_cases z : nI hi < nI n'
              · rw [if_pos z, if_pos (Or.inr z)]
              · rw [if_neg z, if_neg (fun q => q.elim y z)]
          by_cases out : nI n' < nI lo ∨ nI hi < nI n'
          · rw [if_pos out] at h11
            refine Or.inl ⟨h11, 3 + k, by rw [h10, show P + 3 + k = P + (3 + k) by omega], by omega, fun r r0 r5 => ?_⟩
            obtain ⟨x, x0, -, -, -, -, -, x6⟩ := key2 r r0 r5
            have p0 : fPW (rr cs r P (3 + k)) = 0 := by rw [pw r r0 r5, if_pos out]
            refine ⟨x, p0, fun hl => ?_⟩
            by_cases e : cs (P + (3 + k)) = 59
            · rw [e, (tk3 x0).1, if_pos rfl]
              unfold fTS
              rw [if_pos p0]
            · exact x6 hl e
          · rw [if_neg out] at h11
            refine Or.inr ⟨h11, 3 + k, c - 48, n', by rw [h10, show P + 3 + k = P + (3 + k) by omega], h12, fun _ => h14, by omega, by omega, by omega, fun r r0 r5 => ?_⟩
            obtain ⟨x, x0, -, -, x3, x4, x5, x6⟩ := key2 r r0 r5
            refine ⟨⟨x, by rw [pw r r0 r5, if_neg out]; decide, Or.inl x0, x6⟩, x3, by rw [x4, h13], x5, ?_⟩
            rw [h13]
            exact hrange n' (Nat.le_of_not_lt (fun g => out (Or.inl ((nI_ltI (by omega) (by omega)).mpr g)))) (Nat.le_of_not_lt (fun g => out (Or.inr ((nI_ltI (by omega) (by omega)).mpr g))))
/-! the whole text -/
/-- a row at a part's start -/
def zR0 (r : Nat → Int32) : Prop := r 0 = 0 ∧ r 5 = 0
/-- the part at q is read to its end -/
def zPK (cs : Nat → Int32) (L q : Nat) : Prop := ∃ k j v w, zOp cs L q k j v w ∧ (q + k = L ∨ cs (q + k) = 59)
/-- at the start of a part -/
def zIn (cs : Nat → Int32) (L P : Nat) : Prop := P ≤ L ∧ zSt cs P ∧ (∀ r, zR0 r → (∀ i, i < P → ¬ fTk (rr cs r 0 i) (cs i) = 0) ∧ zR0 (rr cs r 0 P)) ∧ ∀ q, q < P → zSt cs q → zPK cs L q
/-- what is wrong, at the place k -/
def zNo (cs : Nat → Int32) (L k : Nat) : Prop := k ≤ L ∧ ∀ r, zR0 r → (∀ i, i < k → ¬ fTk (rr cs r 0 i) (cs i) = 0) ∧ (k < L → fTk (rr cs r 0 k) (cs k) = 0) ∧ (k = L → fPW (rr cs r 0 k) = 0)
def zYes (cs : Nat → Int32) (L : Nat) : Prop := (∀ r, zR0 r → (∀ i, i < L → ¬ fTk (rr cs r 0 i) (cs i) = 0) ∧ ¬ fPW (rr cs r 0 L) = 0) ∧ ∀ q, q < L → zSt cs q → zPK cs L q
theorem zIn_0 (cs : Nat → Int32) (L : Nat) : zIn cs L 0 := ⟨Nat.zero_le L, Or.inl rfl, fun r hr => ⟨fun i hi => absurd hi (Nat.not_lt_zero i), by rw [rr_0]; exact hr⟩, fun q hq => absurd hq (Nat.not_lt_zero q)⟩
theorem rr_P (cs r : Nat → Int32) (P k : Nat) : rr cs r 0 (P + k) = rr cs (rr cs r 0 P) P k := by rw [rr_add, Nat.zero_add]
theorem acc_P {cs : Nat → Int32} {L P k : Nat} (h : zIn cs L P) (hk : ∀ r, r 0 = 0 → r 5 = 0 → ∀ i, i < k → ¬ fTk (rr cs r P i) (cs (P + i)) = 0 ∧ ¬ cs (P + i) = 59) : ∀ r, zR0 r → ∀ i, i < P + k → ¬ fTk (rr cs r 0 i) (cs i) = 0 := fun r hr i hi => by
  obtain ⟨a, b⟩ := h.2.2.1 r hr
  by_cases q : i < P
  · exact a i q
  · obtain ⟨n, rfl⟩ : ∃ n, i = P + n := ⟨i - P, by omega⟩
    rw [rr_P]
    exact (hk _ b.1 b.2 n (by omega)).1
theorem zIn_bad {cs : Nat → Int32} {L P k : Nat} (h : zIn cs L P) (hL : P + k ≤ L) (hb : ∀ r, r 0 = 0 → r 5 = 0 → zBd cs L P k r) : zNo cs L (P + k) := ⟨hL, fun r hr => by
  obtain ⟨a, b⟩ := h.2.2.1 r hr
  refine ⟨acc_P h (fun r r0 r5 => (hb r r0 r5).1) r hr, fun hl => ?_, fun _ => ?_⟩
  · rw [rr_P]; exact (hb _ b.1 b.2).2.2 hl
  · rw [rr_P]; exact (hb _ b.1 b.2).2.1⟩
theorem zIn_odd {cs : Nat → Int32} {L P k j v : Nat} {w : Int32} (h : zIn cs L P) (ho : zOp cs L P k j v w) (hl : P + k < L) (hn : ¬ cs (P + k) = 59) : zNo cs L (P + k) := ⟨by omega, fun r hr => by
  obtain ⟨a, b⟩ := h.2.2.1 r hr
  refine ⟨acc_P h (fun r r0 r5 => (ho.2.2.2 r r0 r5).1.1) r hr, fun hl => ?_, fun e => absurd e (by omega)⟩
  rw [rr_P]
  exact (ho.2.2.2 _ b.1 b.2).1.2.2.2 hl hn⟩
/-- no part begins within a part -/
theorem zSt_in {cs : Nat → Int32} {P k q : Nat} (hn : ∀ i, i < k → ¬ cs (P + i) = 59) (h : zSt cs q) (hq : P < q) : P + k < q := by
  rcases h with h | ⟨n, h1, h2⟩
  · omega
  · apply Nat.lt_of_not_le
    intro g
    exact hn (n - P) (by omega) (by rw [show P + (n - P) = n by omega]; exact h2)
theorem zIn_end {cs : Nat → Int32} {L P k j v : Nat} {w : Int32} (h : zIn cs L P) (ho : zOp cs L P k j v w) (hl : P + k = L) : zYes cs L := by
  refine ⟨fun r hr => ?_, fun q hq hs => ?_⟩
  · obtain ⟨a, b⟩ := h.2.2.1 r hr
    have x := acc_P h (fun r r0 r5 => (ho.2.2.2 r r0 r5).1.1) r hr
    rw [hl] at x
    refine ⟨x, ?_⟩
    rw [← hl, rr_P]
    exact (ho.2.2.2 _ b.1 b.2).1.2.1
  · rcases Nat.lt_trichotomy q P with g | g | g
    · exact h.2.2.2 q g hs
    · subst g; exact ⟨k, j, v, w, ho, Or.inl hl⟩
    · have := zSt_in (k := k) (fun i hi => ((ho.2.2.2 (fun _ => 0) rfl rfl).1.1 i hi).2) hs g
      omega
theorem zIn_next {cs : Nat → Int32} {L P k j v : Nat} {w : Int32} (h : zIn cs L P) (ho : zOp cs L P k j v w) (hl : P + k < L) (he : cs (P + k) = 59) : zIn cs L (P + k + 1) := by
  refine ⟨by omega, Or.inr ⟨P + k, rfl, he⟩, fun r hr => ?_, fun q hq hs => ?_⟩
  · obtain ⟨a, b⟩ := h.2.2.1 r hr
    have g := (ho.2.2.2 _ b.1 b.2).1
    have s := zGd_59 g
    rw [← rr_P] at s
    refine ⟨fun i hi => ?_, ?_⟩
    · by_cases e : i = P + k
      · subst e
        rw [he, s.1]
        decide
      · exact acc_P h (fun r r0 r5 => (ho.2.2.2 r r0 r5).1.1) r hr i (by omega)
    · rw [rr_s, Nat.zero_add, he, s.2]
      exact ⟨rStart_0 _, rStart_5 _⟩
  · rcases Nat.lt_trichotomy q P with g | g | g
    · exact h.2.2.2 q g hs
    · subst g; exact ⟨k, j, v, w, ho, Or.inr he⟩
    · have := zSt_in (k := k) (fun i hi => ((ho.2.2.2 (fun _ => 0) rfl rfl).1.1 i hi).2) hs g
      omega
/-- a part that is read to its end is read so each time -/
theorem zPK_bad {cs : Nat → Int32} {L P k : Nat} (h : zPK cs L P) (hL : P + k ≤ L) (hb : ∀ r, r 0 = 0 → r 5 = 0 → zBd cs L P k r) : False := by
  obtain ⟨k', j, v, w, ho, he⟩ := h
  obtain ⟨g1, g2, g3, g4⟩ := (ho.2.2.2 (fun _ => 0) rfl rfl).1
  obtain ⟨b1, b2, b3⟩ := hb (fun _ => 0) rfl rfl
  have hk' := ho.2.2.1
  rcases Nat.lt_trichotomy k k' with g | g | g
  · exact (g1 k g).1 (b3 (by omega))
  · subst g; exact g2 b2
  · rcases he with e | e
    · omega
    · exact (b1 k' g).2 e
theorem zPK_end {cs : Nat → Int32} {L P k j v : Nat} {w : Int32} (h : zPK cs L P) (ho : zOp cs L P k j v w) : P + k = L ∨ cs (P + k) = 59 := by
  obtain ⟨k', j', v', w', ho', he⟩ := h
  obtain ⟨a1, a2, a3, a4⟩ := (ho'.2.2.2 (fun _ => 0) rfl rfl).1
  obtain ⟨b1, b2, b3, b4⟩ := (ho.2.2.2 (fun _ => 0) rfl rfl).1
  have hk' := ho'.2.2.1
  have hk := ho.2.2.1
  rcases Nat.lt_trichotomy k k' with g | g | g
  · exact absurd (b4 (by omega) (a1 k g).2) (a1 k g).1
  · subst g; exact he
  · rcases he with e | e
    · omega
    · exact absurd e (b1 k' g).2
/-- the class's side -/
theorem zPK_len {cs : Nat → Int32} {L q n : Nat} (h : zPK cs L q) (hn : q + n ≤ L) (h1 : ∀ i, i < n → ¬ cs (q + i) = 59) (h2 : q + n = L ∨ cs (q + n) = 59) : ∃ j v w, zOp cs L q n j v w := by
  obtain ⟨k, j, v, w, ho, he⟩ := h
  have hk := ho.2.2.1
  have a := (ho.2.2.2 (fun _ => 0) rfl rfl).1.1
  rcases Nat.lt_trichotomy k n with g | g | g
  · rcases he with e | e
    · omega
    · exact absurd e (h1 k g)
  · subst g; exact ⟨j, v, w, ho⟩
  · rcases h2 with e | e
    · omega
    · exact absurd e (a n g).2
theorem zYes_rows {cs : Nat → Int32} {L : Nat} (h : zYes cs L) : zRows cs L := fun q n hq hs hn h1 h2 r => by
  obtain ⟨j, v, w, ho⟩ := zPK_len (h.2 q hq hs) hn h1 h2
  obtain ⟨e3, e4, e5, hk⟩ := (ho.2.2.2 _ (rStart_0 r) (rStart_5 r)).2
  refine ⟨j, ho.1, by rw [rdS_rr]; exact e3, v, by rw [rdS_rr]; exact e5, ?_⟩
  rw [rdS_rr, e4]
  exact hk
theorem zYes_wh {mem : zM} {L : Nat} (h : zYes (mem 104) L) : zWh mem L := by
  obtain ⟨a, b⟩ := h.1 (rStart (mem 105)) ⟨rStart_0 _, rStart_5 _⟩
  refine ⟨⟨Nat.le_refl L, fun i hi => by rw [rdN_rr]; exact a i hi, fun q => absurd q (by omega)⟩, by rw [rdN_rr]; exact b⟩
theorem zNo_ff {mem : zM} {L k : Nat} (h : zNo (mem 104) L k) : pFF mem L k := by
  obtain ⟨a, b, c⟩ := h.2 (rStart (mem 105)) ⟨rStart_0 _, rStart_5 _⟩
  exact ⟨h.1, fun i hi => by rw [rdN_rr]; exact a i hi, fun q => by rw [rdN_rr]; exact b q⟩
theorem zNo_wh {mem : zM} {L k : Nat} (h : zNo (mem 104) L k) : ¬ zWh mem L := fun ⟨w1, w2⟩ => by
  obtain ⟨a, b, c⟩ := h.2 (rStart (mem 105)) ⟨rStart_0 _, rStart_5 _⟩
  have hk := h.1
  by_cases e : k = L
  · rw [rdN_rr] at w2
    exact w2 (by rw [← e]; exact c e)
  · exact absurd (b (by omega)) (by have := w1.2.1 k (by omega); rw [rdN_rr] at this; exact this)
/-- readPart always ends in one of its ways -/
theorem pRP_ex (mem : zM) {P L : Nat} {c0 w0 d0 : Int32} (h0 : ¬ (c0 < 48 ∨ 51 < c0) → P < L) (h1 : w0 = 120 ∨ w0 = 117 ∨ w0 = 111 ∨ w0 = 114 → P + 1 < L) : ∃ u, pRP mem u P L c0 w0 d0 := by
  have mk : ∀ x10 x11 x12 x13 x14 : Int32, ∃ u : zM, zRd mem u ∧ u 0 10 = x10 ∧ u 0 11 = x11 ∧ u 0 12 = x12 ∧ u 0 13 = x13 ∧ u 0 14 = x14 := fun x10 x11 x12 x13 x14 => by
    refine ⟨mset (mset (mset (mset (mset mem 0 10 x10) 0 11 x11) 0 12 x12) 0 13 x13) 0 14 x14, ((((((zRd.refl mem).fld (by omega) _).fld (by omega) _).fld (by omega) _).fld (by omega) _).fld (by omega) _), ?_, ?_, ?_, ?_, ?_⟩
    · rw [mset_ne2 _ _ (by decide), mset_ne2 _ _ (by decide), mset_ne2 _ _ (by decide), mset_ne2 _ _ (by decide), mset_at]
    · rw [mset_ne2 _ _ (by decide), mset_ne2 _ _ (by decide), mset_ne2 _ _ (by decide), mset_at]
    · rw [mset_ne2 _ _ (by decide), mset_ne2 _ _ (by decide), mset_at]
    · rw [mset_ne2 _ _ (by decide), mset_at]
    · rw [mset_at]
  by_cases b0 : c0 < 48 ∨ 51 < c0
  · obtain ⟨u, hz, h10, h11, -⟩ := mk (nI P) 1 0 0 0
    exact ⟨u, hz, Or.inl ⟨b0, h11, h10⟩⟩
  · by_cases b1 : w0 = 120 ∨ w0 = 117 ∨ w0 = 111 ∨ w0 = 114
    · by_cases b2 : w0 = 120
      · obtain ⟨u, hz, h10, h11, h12, h13, -⟩ := mk (nI (P + 2)) 0 (c0 - 48) w0 0
        exact ⟨u, hz, Or.inr (Or.inr ⟨b0, h1 b1, h12, h13, Or.inl ⟨b2, h11, h10⟩⟩)⟩
      · have b3 := b1.resolve_left b2
        by_cases b4 : d0 < zLo (zLoW w0) ∨ 57 < d0
        · obtain ⟨u, hz, h10, h11, h12, h13, -⟩ := mk (nI (P + 2)) 1 (c0 - 48) w0 0
          exact ⟨u, hz, Or.inr (Or.inr ⟨b0, h1 b1, h12, h13, Or.inr ⟨b3, Or.inl ⟨b4, h11, h10⟩⟩⟩)⟩
        · obtain ⟨u, hz, h10, h11, h12, h13, h14⟩ := mk (nI (mDig (mem 3) L (zLoW w0) (zHiW w0) (L - (P + 2 + 1)) (P + 2 + 1) (d0 - 48)).1) (if (mDig (mem 3) L (zLoW w0) (zHiW w0) (L - (P + 2 + 1)) (P + 2 + 1) (d0 - 48)).2 < zLoW w0 ∨ zHiW w0 < (mDig (mem 3) L (zLoW w0) (zHiW w0) (L - (P + 2 + 1)) (P + 2 + 1) (d0 - 48)).2 then 1 else 0) (c0 - 48) w0 (mDig (mem 3) L (zLoW w0) (zHiW w0) (L - (P + 2 + 1)) (P + 2 + 1) (d0 - 48)).2
          exact ⟨u, hz, Or.inr (Or.inr ⟨b0, h1 b1, h12, h13, Or.inr ⟨b3, Or.inr ⟨b4, h10, h14, h11⟩⟩⟩)⟩
    · obtain ⟨u, hz, h10, h11, -⟩ := mk (nI (P + 1)) 1 0 0 0
      exact ⟨u, hz, Or.inr (Or.inl ⟨b0, h0 b0, fun q => b1 (Or.inr (Or.inl q)), fun q => b1 (Or.inr (Or.inr (Or.inl q))), fun q => b1 (Or.inr (Or.inr (Or.inr q))), fun q => b1 (Or.inl q), h11, h10⟩)⟩
theorem zCs_lt {cs : Nat → Int32} {L i : Nat} {c : Int32} (h : zCs cs L i = c) (hc : ¬ c = 0) : i < L := Decidable.byContradiction (fun q => hc (h.symm.trans (if_neg q)))
theorem zTotal {cs : Nat → Int32} {L : Nat} (hc : zCd cs L) : ∀ n P, L < P + n → zIn cs L P → (∃ k, zNo cs L k) ∨ zYes cs L
  | 0, P, hn, h => by have := h.1; omega
  | n + 1, P, hn, h => by
    obtain ⟨u, hu⟩ := pRP_ex (fun a b => if a = 3 then cs b else 0) (P := P) (L := L) (c0 := zCs cs L P) (w0 := zCs cs L (P + 1)) (d0 := zCs cs L (P + 2)) (fun q => Decidable.byContradiction (fun g => q (Or.inl (by rw [show zCs cs L P = 0 from if_neg g]; decide)))) (fun q => by rcases q with q | q | q | q <;> exact zCs_lt q (by decide))
    rcases zPart hc h.1 (fun i _ => rfl) hu with ⟨-, k, -, hk, hb⟩ | ⟨-, k, j, v, -, -, -, ho⟩
    · exact Or.inl ⟨_, zIn_bad h hk hb⟩
    · have hk := ho.2.2.1
      by_cases e : P + k = L
      · exact Or.inr (zIn_end h ho e)
      · by_cases g : cs (P + k) = 59
        · exact zTotal hc n (P + k + 1) (by omega) (zIn_next h ho (by omega) g)
        · exact Or.inl ⟨_, zIn_odd h ho (by omega) g⟩
/-- whole works are read, part by part -/
theorem zWh_yes {mem : zM} {L : Nat} (hc : zCd (mem 104) L) (h : zWh mem L) : zYes (mem 104) L := by
  rcases zTotal hc (L + 1) 0 (by omega) (zIn_0 _ _) with ⟨k, hk⟩ | q
  · exact absurd h (zNo_wh hk)
  · exact q
theorem zYes_in {cs : Nat → Int32} {L P : Nat} (h : zYes cs L) (hi : zIn cs L P) : P < L := by
  have h1 := hi.1
  apply Nat.lt_of_not_le
  intro g
  have e : P = L := by omega
  subst e
  have a := (hi.2.2.1 (fun _ => 0) ⟨rfl, rfl⟩).2
  exact (h.1 (fun _ => 0) ⟨rfl, rfl⟩).2 (fPW_no (Or.inl a.1))
/-- the class's next part -/
theorem zOp_np {c : zM} {L q k j v : Nat} {w : Int32} (ho : zOp (c 104) L q k j v w) (he : q + k = L ∨ c 104 (q + k) = 59) : zRowJ (sNP c L q 105) j ∧ sNP c L q 105 4 = w ∧ sNP c L q 105 5 = nI v ∧ sNP c L q 105 3 = nI j ∧ zQn (c 104) L q = (if q + k < L then q + k + 1 else q + k) := by
  have e : zNx (c 104) (L - q) q = k := zNx_of (L - q) q k (by have := ho.2.2.1; omega) (fun i hi => ((ho.2.2.2 (fun _ => 0) rfl rfl).1.1 i hi).2) (by rcases he with e | e; exact Or.inl (by omega); exact Or.inr e)
  have hr : sNP c L q 105 = rr (c 104) (rStart (c 105)) q k := by
    unfold sNP
    rw [mset_ne _ _ _ (by decide), mrow_at, e, rdS_rr]
  obtain ⟨e3, e4, e5, hk⟩ := (ho.2.2.2 _ (rStart_0 (c 105)) (rStart_5 (c 105))).2
  refine ⟨⟨ho.1, by rw [hr]; exact e3, v, by rw [hr]; exact e5, by rw [hr, e4]; exact hk⟩, by rw [hr]; exact e4, by rw [hr]; exact e5, by rw [hr]; exact e3, by unfold zQn; rw [e]⟩
