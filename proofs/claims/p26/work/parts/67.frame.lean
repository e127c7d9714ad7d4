/-! worlds side by side: contracts over a part of the world -/
theorem vP_L {D : va_G} {cl : List vw_C} {a b : va_W} {H : Heap} (h : va_P D cl (a ++ b) H) : va_P D cl a H := fun k q hk => h k q (by rw [List.getElem?_append_left (List.getElem?_eq_some_iff.mp hk).1]; exact hk)
theorem vP_R {D : va_G} {cl : List vw_C} {a b : va_W} {H : Heap} (h : va_P D cl (a ++ b) H) : va_P D cl b H := fun k q hk => h (a.length + k) q (by rw [List.getElem?_append_right (by omega), show a.length + k - a.length = k by omega]; exact hk)
theorem vD_L {A : Nat → Prop} {a b : va_W} (h : va_D A (a ++ b)) : va_D A a := by
  have up : ∀ (k : Nat) (q : Nat × va_E), a[k]? = some q → (a ++ b)[k]? = some q := fun k q hk => by rw [List.getElem?_append_left (List.getElem?_eq_some_iff.mp hk).1]; exact hk
  exact ⟨fun i j p q hi hj e => h.1 i j p q (up i p hi) (up j q hj) e, fun k q hk => h.2 k q (up k q hk)⟩
theorem vD_R {A : Nat → Prop} {a b : va_W} (h : va_D A (a ++ b)) : va_D A b := by
  have up : ∀ (k : Nat) (q : Nat × va_E), b[k]? = some q → (a ++ b)[a.length + k]? = some q := fun k q hk => by rw [List.getElem?_append_right (by omega), show a.length + k - a.length = k by omega]; exact hk
  exact ⟨fun i j p q hi hj e => by have := h.1 _ _ p q (up i p hi) (up j q hj) e; omega, fun k q hk => h.2 _ q (up k q hk)⟩
theorem vD_X {A : Nat → Prop} {a b : va_W} (h : va_D A (a ++ b)) : ∀ (i j : Nat) (p q : Nat × va_E), a[i]? = some p → b[j]? = some q → p.1 ≠ q.1 := fun i j p q hi hj e => by
  have hl := (List.getElem?_eq_some_iff.mp hi).1
  have := h.1 i (a.length + j) p q (by rw [List.getElem?_append_left hl]; exact hi) (by rw [List.getElem?_append_right (by omega), show a.length + j - a.length = j by omega]; exact hj) e
  omega
theorem vA_in {w1 wc w2 : va_W} {sz : Nat} : ∀ q, va_A wc sz q → va_A (w1 ++ (wc ++ w2)) sz q := fun q h => by
  rcases h with ⟨k, e, h⟩ | h
  · have hl := (List.getElem?_eq_some_iff.mp h).1
    exact Or.inl ⟨w1.length + k, e, by rw [List.getElem?_append_right (by omega), show w1.length + k - w1.length = k by omega, List.getElem?_append_left hl]; exact h⟩
  · exact Or.inr h
/-- the part's start -/
theorem zPc_part {D : va_G} {tys : List (ClassId × FieldType)} {av : List Value} {w1 wc w2 : va_W} {sz : Nat} {a : Array Value} {U : State} (h : zPc D tys av (w1 ++ (wc ++ w2)) sz a U) : zPc D tys av wc sz a U := by
  obtain ⟨q0, q1, q2, q3, q4, q5⟩ := h
  exact ⟨q0, q1, vP_L (vP_R q2), q3, vD_L (vD_R q4), q5.narrow vA_in⟩
/-- the part's end, beside the rest -/
theorem zB_part {D : va_G} {tys : List (ClassId × FieldType)} {av : List Value} {w1 wc w2 w' : va_W} {sz : Nat} {a : Array Value} {s t : State} (h : zPc D tys av (w1 ++ (wc ++ w2)) sz a s) (hB : zB D tys (va_A wc sz) w' t) (hF : va_F (va_A wc sz) s t) : zB D tys (va_A (w1 ++ (wc ++ w2)) sz) (w1 ++ (w' ++ w2)) t := by
  obtain ⟨-, hsz, hP, hK, hD, -⟩ := h
  subst hsz
  obtain ⟨bP, bK, bD⟩ := hB
  have d1 := vD_L hD
  have d2 := vD_R (vD_R hD)
  have x1 := vD_X hD
  have x2 := vD_X (vD_R hD)
  have p1 := vP_L hP
  have p2 := vP_R (vP_R hP)
  have out1 : ∀ (i : Nat) (p : Nat × va_E), w1[i]? = some p → ¬ va_A wc s.heap.size p.1 := fun i p hi hq => by
    rcases hq with ⟨k, e, hk⟩ | hq
    · exact x1 i k p (p.1, e) hi (by rw [List.getElem?_append_left (List.getElem?_eq_some_iff.mp hk).1]; exact hk) rfl
    · have := (p1 i p hi).lt; omega
  have out2 : ∀ (i : Nat) (p : Nat × va_E), w2[i]? = some p → ¬ va_A wc s.heap.size p.1 := fun i p hi hq => by
    rcases hq with ⟨k, e, hk⟩ | hq
    · exact x2 k i (p.1, e) p hk hi rfl
    · have := (p2 i p hi).lt; omega
  have in1 : ∀ (k : Nat) (q : Nat × va_E), w1[k]? = some q → va_A (w1 ++ (wc ++ w2)) s.heap.size q.1 := fun k q hk => Or.inl ⟨k, q.2, by rw [List.getElem?_append_left (List.getElem?_eq_some_iff.mp hk).1]; exact hk⟩
  have in2 : ∀ (k : Nat) (q : Nat × va_E), w2[k]? = some q → va_A (w1 ++ (wc ++ w2)) s.heap.size q.1 := fun k q hk => Or.inl ⟨w1.length + (wc.length + k), q.2, by rw [List.getElem?_append_right (by omega), show w1.length + (wc.length + k) - w1.length = wc.length + k by omega, List.getElem?_append_right (by omega), show wc.length + k - wc.length = k by omega]; exact hk⟩
  have k1 : va_P D vwCl w1 t.heap := p1.kept (fun k q hk => hF.2 q.1 (p1 k q hk).lt (out1 k q hk))
  have k2 : va_P D vwCl w2 t.heap := p2.kept (fun k q hk => hF.2 q.1 (p2 k q hk).lt (out2 k q hk))
  have e1 : va_D (va_A (w1 ++ (wc ++ w2)) s.heap.size) w1 := d1.weaken (fun k q hk _ => in1 k q hk)
  have e2 : va_D (va_A (w1 ++ (wc ++ w2)) s.heap.size) w2 := d2.weaken (fun k q hk _ => in2 k q hk)
  have ec : va_D (va_A (w1 ++ (wc ++ w2)) s.heap.size) w' := bD.weaken (fun k q hk h => vA_in q.1 h)
  refine ⟨k1.app (bP.app k2), bK, va_D.app e1 (va_D.app ec e2 (fun i j p q hi hj e => ?_)) (fun i j p q hi hj e => ?_)⟩
  · exact out2 j q hj (by rw [← e]; exact bD.2 i p hi)
  · by_cases hl : j < w'.length
    · rw [List.getElem?_append_left hl] at hj
      exact out1 i p hi (by rw [e]; exact bD.2 j q hj)
    · rw [List.getElem?_append_right (by omega)] at hj
      exact x1 i (wc.length + (j - w'.length)) p q hi (by rw [List.getElem?_append_right (by omega), show wc.length + (j - w'.length) - wc.length = j - w'.length by omega]; exact hj) e
theorem va_F_part {w1 wc w2 : va_W} {sz : Nat} {s t : State} (hF : va_F (va_A wc sz) s t) : va_F (va_A (w1 ++ (wc ++ w2)) sz) s t := ⟨hF.1, fun q h1 h2 => hF.2 q h1 (fun h => h2 (vA_in q h))⟩
theorem zFrame {l : Launch} {y : MethodName} {ws : List Cond} {rm : Room} {Pc Pc' : Array Value → State → Prop} {Qc Qc' : Array Value → State → Outcome → State → Prop} {mc ms : Nat} {free free' : Addr → Prop} (h : Met l y ws rm Pc Qc mc ms free) (hp : ∀ a s, Pc' a s → Pc a s) (hq : ∀ a s o t, Pc' a s → Qc a s o t → Qc' a s o t) (hf : ∀ q, free q → free' q) : Met l y ws rm Pc' Qc' mc ms free' := fun p e ha hc hk s m args below hfr happ hP hK => by
  obtain ⟨n, o, h1, h2, h3, h4, L, h5, h6⟩ := h p e ha hc hk s m args below hfr happ (hp _ _ hP) hK
  exact ⟨n, o, h1, h2, h3, hq _ _ _ _ hP h4, L, h5, fun q hq => hf _ (h6 q hq)⟩
theorem zFrameX {l : Launch} {y : MethodName} {ws : List Cond} {rm : Room} {Pc Pc' : Array Value → State → Prop} {Qc Qc' : Array Value → State → Outcome → State → Prop} {XC XC' : String → State → State → Prop} {mc ms : Nat} {free free' : Addr → Prop} (h : vx_Met l y ws rm Pc Qc XC mc ms free) (hp : ∀ a s, Pc' a s → Pc a s) (hq : ∀ a s o t, Pc' a s → Qc a s o t → Qc' a s o t) (hx : ∀ a E s t, Pc' a s → XC E s t → XC' E s t) (hf : ∀ q, free q → free' q) : vx_Met l y ws rm Pc' Qc' XC' mc ms free' := fun p e ha hc hk s m args below hfr happ hP hK => by
  obtain ⟨n, o, h1, h2, h3, h4⟩ := h p e ha hc hk s m args below hfr happ (hp _ _ hP) hK
  refine ⟨n, o, h1, h2, h3, ?_⟩
  rcases h4 with ⟨h4, L, h5, h6⟩ | ⟨q, ho, E, ce, L, x1, x2, x3, x4, x5, x6, x7⟩
  · exact Or.inl ⟨hq _ _ _ _ hP h4, L, h5, fun q hq => hf _ (h6 q hq)⟩
  · exact Or.inr ⟨q, ho, E, ce, L, hx _ _ _ _ hP x1, x2, x3, x4, x5, x6, fun z hz => hf _ (x7 z hz)⟩
section ZFR
variable {l : Launch} {y : MethodName} {wl : List Cond} {rm : Room} {D : va_G} {tys : List (ClassId × FieldType)} {av : List Value} {wc : va_W} {mc ms : Nat} {S SX : Type} {out : S → va_W} {outx : SX → va_W} {px : String → SX → Prop}
theorem zMi.fr {post : Int32 → S → Prop} (h : zMi l y wl rm D tys av wc post out mc ms) (w1 w2 : va_W) : zMi l y wl rm D tys av (w1 ++ (wc ++ w2)) post (fun u => w1 ++ (out u ++ w2)) mc ms := fun sz => zFrame (h sz) (fun _ _ h => zPc_part h) (fun a s o t hp hq => by
  obtain ⟨⟨r, u, h1, h2, h3⟩, h4⟩ := hq
  exact ⟨⟨r, u, h1, h2, zB_part hp h3 h4⟩, va_F_part h4⟩) vA_in
theorem zMl.fr {post : Int64 → S → Prop} (h : zMl l y wl rm D tys av wc post out mc ms) (w1 w2 : va_W) : zMl l y wl rm D tys av (w1 ++ (wc ++ w2)) post (fun u => w1 ++ (out u ++ w2)) mc ms := fun sz => zFrame (h sz) (fun _ _ h => zPc_part h) (fun a s o t hp hq => by
  obtain ⟨⟨r, u, h1, h2, h3⟩, h4⟩ := hq
  exact ⟨⟨r, u, h1, h2, zB_part hp h3 h4⟩, va_F_part h4⟩) vA_in
theorem zMd.fr {post : UInt64 → S → Prop} (h : zMd l y wl rm D tys av wc post out mc ms) (w1 w2 : va_W) : zMd l y wl rm D tys av (w1 ++ (wc ++ w2)) post (fun u => w1 ++ (out u ++ w2)) mc ms := fun sz => zFrame (h sz) (fun _ _ h => zPc_part h) (fun a s o t hp hq => by
  obtain ⟨⟨r, u, h1, h2, h3⟩, h4⟩ := hq
  exact ⟨⟨r, u, h1, h2, zB_part hp h3 h4⟩, va_F_part h4⟩) vA_in
theorem zMv.fr {post : S → Prop} (h : zMv l y wl rm D tys av wc post out mc ms) (w1 w2 : va_W) : zMv l y wl rm D tys av (w1 ++ (wc ++ w2)) post (fun u => w1 ++ (out u ++ w2)) mc ms := fun sz => zFrame (h sz) (fun _ _ h => zPc_part h) (fun a s o t hp hq => by
  obtain ⟨⟨u, h1, h2, h3⟩, h4⟩ := hq
  exact ⟨⟨u, h1, h2, zB_part hp h3 h4⟩, va_F_part h4⟩) vA_in
theorem zXi.fr {post : Int32 → S → Prop} (h : zXi l y wl rm D tys av wc post out px outx mc ms) (w1 w2 : va_W) : zXi l y wl rm D tys av (w1 ++ (wc ++ w2)) post (fun u => w1 ++ (out u ++ w2)) px (fun u => w1 ++ (outx u ++ w2)) mc ms := fun sz => zFrameX (h sz) (fun _ _ h => zPc_part h) (fun a s o t hp hq => by
  obtain ⟨⟨r, u, h1, h2, h3⟩, h4⟩ := hq
  exact ⟨⟨r, u, h1, h2, zB_part hp h3 h4⟩, va_F_part h4⟩) (fun a E s t hp hx => by
  obtain ⟨u, h1, ⟨h2, h3⟩, h4⟩ := hx
  exact ⟨u, h1, ⟨h2, zB_part hp h3 h4⟩, va_F_part h4⟩) vA_in
end ZFR
