/-! two objects alike, as the law sees it -/
theorem zXi.frL {l : Launch} {y : MethodName} {wl : List Cond} {rm : Room} {D : va_G} {tys : List (ClassId × FieldType)} {av : List Value} {wc : va_W} {mc ms : Nat} {S SX : Type} {out : S → va_W} {outx : SX → va_W} {px : String → SX → Prop} {post : Int32 → S → Prop} (h : zXi l y wl rm D tys av wc post out px outx mc ms) (w2 : va_W) : zXi l y wl rm D tys av (wc ++ w2) post (fun u => out u ++ w2) px (fun u => outx u ++ w2) mc ms := h.fr [] w2
set_option maxHeartbeats 4000000 in
set_option maxRecDepth 100000 in
theorem k_alike (l : Launch) (D : va_G) (ad ap : Nat → Nat) (cI cR cS cL : ClassId) (mem pm : zM) (hl : l.stackTraces = false) (hSE : zSE mem pm) (hok : zOK mem) : zMi l yL_areAlike wsL_areAlike ({ frames := 8, cells := 0, slots := 0, locals := 136 }) D (cK cI cR cS cL) [.ref (ad 106), .ref (ap 106)] (cw ad cI cR cS mem ++ cw ap cI cR cS pm) (fun r (_ : Unit) => r = 1) (fun _ => (cw ad cI cR cS mem ++ cw ap cI cR cS pm)) 0 0 := by
  refine zMiM.of (cc := cL_areAlike) (maxL := 5) (ret := (some .boolean)) (by decide +kernel) rfl (lv0 := [(0, .ref (ad 106)), (1, .ref (ap 106))]) (Nat.le_of_ble_eq_true rfl) rfl ?_
  intro p e s m args below meth c E hZ hr hlocks hnm
  refine z_iconst (v := 1) E dL_areAlike_0 (by decide) ?_
  refine z_istore_n (lv' := [(2, .int 1), (0, .ref (ad 106)), (1, .ref (ap 106))]) E dL_areAlike_1 rfl (by decide) rfl ?_
  refine z_iconst (v := 0) E dL_areAlike_2 (by decide) ?_
  refine z_istore_n (lv' := [(3, .int 0), (2, .int 1), (0, .ref (ad 106)), (1, .ref (ap 106))]) E dL_areAlike_3 rfl (by decide) rfl ?_
  refine z_loop (σ := Nat) (fun n y => y + n = 5) (fun _ => (cw ad cI cR cS mem ++ cw ap cI cR cS pm)) (fun y => [(3, .int (nI y)), (2, .int 1), (0, .ref (ad 106)), (1, .ref (ap 106))]) 4 0 0 ?_ 5 0 (Nat.zero_add _) rfl rfl rfl rfl rfl
  rintro n4 w hi4 ih4
  refine z_iload_n E dL_areAlike_4 rfl 0 rfl ?_
  refine z_iconst (v := 5) E dL_areAlike_5 (by decide) ?_
  refine z_icmp_ge (tgt := 38) E dL_areAlike_6 (by decide) (fun c6 => ?_) (fun c6 => ?_)
  · skip
    refine z_iconst (v := 0) E dL_areAlike_38 (by decide) ?_
    refine z_istore_n (lv' := [(3, .int 0), (2, .int 1), (0, .ref (ad 106)), (1, .ref (ap 106))]) E dL_areAlike_39 rfl (by decide) rfl ?_
    refine z_loop (σ := Nat) (fun n y => y + n = 4) (fun _ => (cw ad cI cR cS mem ++ cw ap cI cR cS pm)) (fun y => [(3, .int (nI y)), (2, .int 1), (0, .ref (ad 106)), (1, .ref (ap 106))]) 40 0 0 ?_ 4 0 (Nat.zero_add _) rfl rfl rfl rfl rfl
    rintro n40 k hi40 ih40
    refine z_iload_n E dL_areAlike_40 rfl 0 rfl ?_
    refine z_iconst (v := 4) E dL_areAlike_41 (by decide) ?_
    refine z_icmp_ge (tgt := 163) E dL_areAlike_42 (by decide) (fun c42 => ?_) (fun c42 => ?_)
    · skip
      refine z_iload_n E dL_areAlike_163 rfl 1 rfl ?_
      exact z_izretM E hr hlocks (()) rfl rfl rfl (Nat.le_of_ble_eq_true rfl) (Nat.le_of_ble_eq_true rfl) dL_areAlike_164
    · skip
      have hk : k < 4 := zklt (k := k) (L := 4) (by omega) (by omega) c42
      obtain ⟨hfd, pp, hpp⟩ := hok k hk
      have h7 := hpp.2.1
      have hpp3 := hpp.1
      refine z_iconst (v := 0) E dL_areAlike_45 (by decide) ?_
      refine z_istore (lv' := [(4, .int 0), (3, .int (nI k)), (2, .int 1), (0, .ref (ad 106)), (1, .ref (ap 106))]) E dL_areAlike_46 (by decide) rfl ?_
      refine z_loop (σ := Nat) (fun n y => y + n = 10) (fun _ => (cw ad cI cR cS mem ++ cw ap cI cR cS pm)) (fun y => [(4, .int (nI y)), (3, .int (nI k)), (2, .int 1), (0, .ref (ad 106)), (1, .ref (ap 106))]) 48 0 0 ?_ 10 0 (Nat.zero_add _) rfl rfl rfl rfl rfl
      rintro n48 v hi48 ih48
      refine z_iload E dL_areAlike_48 0 rfl ?_
      refine z_bipush (v := 10) E dL_areAlike_50 (by decide) ?_
      refine z_icmp_ge (tgt := 88) E dL_areAlike_52 (by decide) (fun c52 => ?_) (fun c52 => ?_)
      · skip
        refine z_iconst (v := 0) E dL_areAlike_88 (by decide) ?_
        refine z_istore (lv' := [(4, .int 0), (3, .int (nI k)), (2, .int 1), (0, .ref (ad 106)), (1, .ref (ap 106))]) E dL_areAlike_89 (by decide) rfl ?_
        refine z_loop (σ := Nat) (fun n y => y + n = pp) (fun _ => (cw ad cI cR cS mem ++ cw ap cI cR cS pm)) (fun y => [(4, .int (nI y)), (3, .int (nI k)), (2, .int 1), (0, .ref (ad 106)), (1, .ref (ap 106))]) 91 0 0 ?_ pp 0 (Nat.zero_add _) rfl rfl rfl rfl rfl
        rintro n91 t hi91 ih91
        refine z_iload E dL_areAlike_91 0 rfl ?_
        refine z_aload_n E dL_areAlike_93 rfl 3 rfl ?_
        refine z_iload_n E dL_areAlike_94 rfl 1 rfl ?_
        refine z_bipush (v := 6) E dL_areAlike_95 (by decide) ?_
        refine z_callViN E hZ ((k_ladder l D ad cI cR cS cL mem (c0 := 0) (s0 := 0) hl (nI k) 6 (fun E u h => zno (dLad6 zTr.rfl' hk) h)).frL (cw ap cI cR cS pm)) gL_areAlike_X5_ladder (n := 2) rfl rfl rfl (by decide +kernel) rfl ⟨(Nat.le_of_ble_eq_true rfl), (Nat.le_of_ble_eq_true rfl)⟩ (C := RX5) rfl 106 ow_lad (As := [.int (nI k), .int 6]) (rest := [.int (nI t)]) rfl (Nat.le_of_ble_eq_true rfl) ⟨(Nat.le_of_ble_eq_true rfl), (Nat.le_of_ble_eq_true rfl)⟩ dL_areAlike_97 (fun E u h => zno (dLad6 zTr.rfl' hk) h) (fun r u hp => ?_)
        rw [(zyes (dLad6 zTr.rfl' hk) hp).1, (zyes (dLad6 zTr.rfl' hk) hp).2]
        rw [h7]
        refine z_icmp_ge (tgt := 157) E dL_areAlike_100 (by decide) (fun c100 => ?_) (fun c100 => ?_)
        · skip
          refine z_iinc (v := nI k + 1) (lv' := [(3, .int (nI k + 1)), (4, .int (nI t)), (2, .int 1), (0, .ref (ad 106)), (1, .ref (ap 106))]) E dL_areAlike_157 (q := 1) rfl rfl (by decide) rfl ?_
          refine z_goto (tgt := 40) E dL_areAlike_160 (by decide) ?_
          refine z_lv [0, 2, 3, 4] (lv' := [(3, .int (nI k + 1)), (2, .int 1), (0, .ref (ad 106)), (1, .ref (ap 106))]) rfl ?_
          refine z_eq (ws' := (cw ad cI cR cS mem ++ cw ap cI cR cS pm)) (lv' := [(3, .int (nI (k + 1))), (2, .int 1), (0, .ref (ad 106)), (1, .ref (ap 106))]) (st' := []) rfl (by rw [← nI_1 k]) rfl ?_
          exact ih40 (n40 - 1) (k + 1) (by omega) (by omega)
        · skip
          have ht : t < pp := zklt (k := t) (L := pp) (by omega) (by omega) c100
          refine z_iload_n E dL_areAlike_103 rfl 2 rfl ?_
          refine z_if_eq_f (tgt := 149) E dL_areAlike_104 (by decide) (by decide) ?_
          refine z_aload_n E dL_areAlike_107 rfl 3 rfl ?_
          refine z_iload_n E dL_areAlike_108 rfl 1 rfl ?_
          refine z_iload E dL_areAlike_109 0 rfl ?_
          refine z_iconst (v := 0) E dL_areAlike_111 (by decide) ?_
          refine z_callViN E hZ ((k_person l D ad cI cR cS cL mem (c0 := 0) (s0 := 0) hl (nI k) (nI t) 0 (fun E u h => zno (dPer0 zTr.rfl' hk h7 hpp3 ht) h)).frL (cw ap cI cR cS pm)) gL_areAlike_X5_person (n := 3) rfl rfl rfl (by decide +kernel) rfl ⟨(Nat.le_of_ble_eq_true rfl), (Nat.le_of_ble_eq_true rfl)⟩ (C := RX5) rfl 106 ow_lad (As := [.int (nI k), .int (nI t), .int 0]) (rest := []) rfl (Nat.le_of_ble_eq_true rfl) ⟨(Nat.le_of_ble_eq_true rfl), (Nat.le_of_ble_eq_true rfl)⟩ dL_areAlike_112 (fun E u h => zno (dPer0 zTr.rfl' hk h7 hpp3 ht) h) (fun r u hp => ?_)
          rw [(zyes (dPer0 zTr.rfl' hk h7 hpp3 ht) hp).1, (zyes (dPer0 zTr.rfl' hk h7 hpp3 ht) hp).2]
          refine z_aload_n E dL_areAlike_115 rfl 4 rfl ?_
          refine z_iload_n E dL_areAlike_116 rfl 1 rfl ?_
          refine z_iload E dL_areAlike_117 0 rfl ?_
          refine z_iconst (v := 0) E dL_areAlike_119 (by decide) ?_
          refine z_callViN E hZ ((k_person l D ap cI cR cS cL pm (c0 := 0) (s0 := 0) hl (nI k) (nI t) 0 (fun E u h => zno (perE0 hSE hk h7 hpp3 ht) h)).frR (cw ad cI cR cS mem)) gL_areAlike_X5_person (n := 3) rfl rfl rfl (by decide +kernel) rfl ⟨(Nat.le_of_ble_eq_true rfl), (Nat.le_of_ble_eq_true rfl)⟩ (C := RX5) rfl 213 ow_lad3 (As := [.int (nI k), .int (nI t), .int 0]) (rest := [.int (rv mem k (8 + t))]) rfl (Nat.le_of_ble_eq_true rfl) ⟨(Nat.le_of_ble_eq_true rfl), (Nat.le_of_ble_eq_true rfl)⟩ dL_areAlike_120 (fun E u h => zno (perE0 hSE hk h7 hpp3 ht) h) (fun r u hp => ?_)
          rw [(zyes (perE0 hSE hk h7 hpp3 ht) hp).1, (zyes (perE0 hSE hk h7 hpp3 ht) hp).2]
          refine z_icmp_ne_f (tgt := 149) E dL_areAlike_123 (by decide) rfl ?_
          refine z_aload_n E dL_areAlike_126 rfl 3 rfl ?_
          refine z_iload_n E dL_areAlike_127 rfl 1 rfl ?_
          refine z_iload E dL_areAlike_128 0 rfl ?_
          refine z_iconst (v := 1) E dL_areAlike_130 (by decide) ?_
          refine z_callViN E hZ ((k_person l D ad cI cR cS cL mem (c0 := 0) (s0 := 0) hl (nI k) (nI t) 1 (fun E u h => zno (dPer1 zTr.rfl' hk h7 hpp3 ht) h)).frL (cw ap cI cR cS pm)) gL_areAlike_X5_person (n := 3) rfl rfl rfl (by decide +kernel) rfl ⟨(Nat.le_of_ble_eq_true rfl), (Nat.le_of_ble_eq_true rfl)⟩ (C := RX5) rfl 106 ow_lad (As := [.int (nI k), .int (nI t), .int 1]) (rest := []) rfl (Nat.le_of_ble_eq_true rfl) ⟨(Nat.le_of_ble_eq_true rfl), (Nat.le_of_ble_eq_true rfl)⟩ dL_areAlike_131 (fun E u h => zno (dPer1 zTr.rfl' hk h7 hpp3 ht) h) (fun r u hp => ?_)
          rw [(zyes (dPer1 zTr.rfl' hk h7 hpp3 ht) hp).1, (zyes (dPer1 zTr.rfl' hk h7 hpp3 ht) hp).2]
          refine z_aload_n E dL_areAlike_134 rfl 4 rfl ?_
          refine z_iload_n E dL_areAlike_135 rfl 1 rfl ?_
          refine z_iload E dL_areAlike_136 0 rfl ?_
          refine z_iconst (v := 1) E dL_areAlike_138 (by decide) ?_
          refine z_callViN E hZ ((k_person l D ap cI cR cS cL pm (c0 := 0) (s0 := 0) hl (nI k) (nI t) 1 (fun E u h => zno (perE1 hSE hk h7 hpp3 ht) h)).frR (cw ad cI cR cS mem)) gL_areAlike_X5_person (n := 3) rfl rfl rfl (by decide +kernel) rfl ⟨(Nat.le_of_ble_eq_true rfl), (Nat.le_of_ble_eq_true rfl)⟩ (C := RX5) rfl 213 ow_lad3 (As := [.int (nI k), .int (nI t), .int 1]) (rest := [.int (rv mem k (11 + t))]) rfl (Nat.le_of_ble_eq_true rfl) ⟨(Nat.le_of_ble_eq_true rfl), (Nat.le_of_ble_eq_true rfl)⟩ dL_areAlike_139 (fun E u h => zno (perE1 hSE hk h7 hpp3 ht) h) (fun r u hp => ?_)
          rw [(zyes (perE1 hSE hk h7 hpp3 ht) hp).1, (zyes (perE1 hSE hk h7 hpp3 ht) hp).2]
          refine z_icmp_ne_f (tgt := 149) E dL_areAlike_142 (by decide) rfl ?_
          refine z_iconst (v := 1) E dL_areAlike_145 (by decide) ?_
          refine z_goto (tgt := 150) E dL_areAlike_146 (by decide) ?_
          refine z_istore_n (lv' := [(2, .int 1), (4, .int (nI t)), (3, .int (nI k)), (0, .ref (ad 106)), (1, .ref (ap 106))]) E dL_areAlike_150 rfl (by decide) rfl ?_
          refine z_iinc (v := nI t + 1) (lv' := [(4, .int (nI t + 1)), (2, .int 1), (3, .int (nI k)), (0, .ref (ad 106)), (1, .ref (ap 106))]) E dL_areAlike_151 (q := 1) rfl rfl (by decide) rfl ?_
          refine z_goto (tgt := 91) E dL_areAlike_154 (by decide) ?_
          refine z_lv [0, 2, 1, 3, 4] (lv' := [(4, .int (nI t + 1)), (3, .int (nI k)), (2, .int 1), (0, .ref (ad 106)), (1, .ref (ap 106))]) rfl ?_
          refine z_eq (ws' := (cw ad cI cR cS mem ++ cw ap cI cR cS pm)) (lv' := [(4, .int (nI (t + 1))), (3, .int (nI k)), (2, .int 1), (0, .ref (ad 106)), (1, .ref (ap 106))]) (st' := []) rfl (by rw [← nI_1 t]) rfl ?_
          exact ih91 (n91 - 1) (t + 1) (by omega) (by omega)
      · skip
        have hv : v < 10 := zklt (k := v) (L := 10) (by omega) (by omega) c52
        obtain ⟨r48, e48m, e48p⟩ := ladE hSE hk hv
        refine z_iload_n E dL_areAlike_55 rfl 2 rfl ?_
        refine z_if_eq_f (tgt := 80) E dL_areAlike_56 (by decide) (by decide) ?_
        refine z_aload_n E dL_areAlike_59 rfl 3 rfl ?_
        refine z_iload_n E dL_areAlike_60 rfl 1 rfl ?_
        refine z_iload E dL_areAlike_61 0 rfl ?_
        refine z_callViN E hZ ((k_ladder l D ad cI cR cS cL mem (c0 := 0) (s0 := 0) hl (nI k) (nI v) (fun E u h => zno e48m h)).frL (cw ap cI cR cS pm)) gL_areAlike_X5_ladder (n := 2) rfl rfl rfl (by decide +kernel) rfl ⟨(Nat.le_of_ble_eq_true rfl), (Nat.le_of_ble_eq_true rfl)⟩ (C := RX5) rfl 106 ow_lad (As := [.int (nI k), .int (nI v)]) (rest := []) rfl (Nat.le_of_ble_eq_true rfl) ⟨(Nat.le_of_ble_eq_true rfl), (Nat.le_of_ble_eq_true rfl)⟩ dL_areAlike_63 (fun E u h => zno e48m h) (fun r u hp => ?_)
        rw [(zyes e48m hp).1, (zyes e48m hp).2]
        refine z_aload_n E dL_areAlike_66 rfl 4 rfl ?_
        refine z_iload_n E dL_areAlike_67 rfl 1 rfl ?_
        refine z_iload E dL_areAlike_68 0 rfl ?_
        refine z_callViN E hZ ((k_ladder l D ap cI cR cS cL pm (c0 := 0) (s0 := 0) hl (nI k) (nI v) (fun E u h => zno e48p h)).frR (cw ad cI cR cS mem)) gL_areAlike_X5_ladder (n := 2) rfl rfl rfl (by decide +kernel) rfl ⟨(Nat.le_of_ble_eq_true rfl), (Nat.le_of_ble_eq_true rfl)⟩ (C := RX5) rfl 213 ow_lad3 (As := [.int (nI k), .int (nI v)]) (rest := [.int r48]) rfl (Nat.le_of_ble_eq_true rfl) ⟨(Nat.le_of_ble_eq_true rfl), (Nat.le_of_ble_eq_true rfl)⟩ dL_areAlike_70 (fun E u h => zno e48p h) (fun r u hp => ?_)
        rw [(zyes e48p hp).1, (zyes e48p hp).2]
        refine z_icmp_ne_f (tgt := 80) E dL_areAlike_73 (by decide) rfl ?_
        refine z_iconst (v := 1) E dL_areAlike_76 (by decide) ?_
        refine z_goto (tgt := 81) E dL_areAlike_77 (by decide) ?_
        refine z_istore_n (lv' := [(2, .int 1), (4, .int (nI v)), (3, .int (nI k)), (0, .ref (ad 106)), (1, .ref (ap 106))]) E dL_areAlike_81 rfl (by decide) rfl ?_
        refine z_iinc (v := nI v + 1) (lv' := [(4, .int (nI v + 1)), (2, .int 1), (3, .int (nI k)), (0, .ref (ad 106)), (1, .ref (ap 106))]) E dL_areAlike_82 (q := 1) rfl rfl (by decide) rfl ?_
        refine z_goto (tgt := 48) E dL_areAlike_85 (by decide) ?_
        refine z_lv [0, 2, 1, 3, 4] (lv' := [(4, .int (nI v + 1)), (3, .int (nI k)), (2, .int 1), (0, .ref (ad 106)), (1, .ref (ap 106))]) rfl ?_
        refine z_eq (ws' := (cw ad cI cR cS mem ++ cw ap cI cR cS pm)) (lv' := [(4, .int (nI (v + 1))), (3, .int (nI k)), (2, .int 1), (0, .ref (ad 106)), (1, .ref (ap 106))]) (st' := []) rfl (by rw [← nI_1 v]) rfl ?_
        exact ih48 (n48 - 1) (v + 1) (by omega) (by omega)
  · skip
    have hw : w < 5 := zklt (k := w) (L := 5) (by omega) (by omega) c6
    obtain ⟨r4, e4m, e4p⟩ := cntE hSE hw
    refine z_iload_n E dL_areAlike_9 rfl 1 rfl ?_
    refine z_if_eq_f (tgt := 30) E dL_areAlike_10 (by decide) (by decide) ?_
    refine z_aload_n E dL_areAlike_13 rfl 2 rfl ?_
    refine z_iload_n E dL_areAlike_14 rfl 0 rfl ?_
    refine z_callViN E hZ ((k_count l D ad cI cR cS cL mem (c0 := 0) (s0 := 0) hl (nI w) (fun E u h => zno e4m h)).frL (cw ap cI cR cS pm)) gL_areAlike_X5_count (n := 1) rfl rfl rfl (by decide +kernel) rfl ⟨(Nat.le_of_ble_eq_true rfl), (Nat.le_of_ble_eq_true rfl)⟩ (C := RX5) rfl 106 ow_lad (As := [.int (nI w)]) (rest := []) rfl (Nat.le_of_ble_eq_true rfl) ⟨(Nat.le_of_ble_eq_true rfl), (Nat.le_of_ble_eq_true rfl)⟩ dL_areAlike_15 (fun E u h => zno e4m h) (fun r u hp => ?_)
    rw [(zyes e4m hp).1, (zyes e4m hp).2]
    refine z_aload_n E dL_areAlike_18 rfl 3 rfl ?_
    refine z_iload_n E dL_areAlike_19 rfl 0 rfl ?_
    refine z_callViN E hZ ((k_count l D ap cI cR cS cL pm (c0 := 0) (s0 := 0) hl (nI w) (fun E u h => zno e4p h)).frR (cw ad cI cR cS mem)) gL_areAlike_X5_count (n := 1) rfl rfl rfl (by decide +kernel) rfl ⟨(Nat.le_of_ble_eq_true rfl), (Nat.le_of_ble_eq_true rfl)⟩ (C := RX5) rfl 213 ow_lad3 (As := [.int (nI w)]) (rest := [.int r4]) rfl (Nat.le_of_ble_eq_true rfl) ⟨(Nat.le_of_ble_eq_true rfl), (Nat.le_of_ble_eq_true rfl)⟩ dL_areAlike_20 (fun E u h => zno e4p h) (fun r u hp => ?_)
    rw [(zyes e4p hp).1, (zyes e4p hp).2]
    refine z_icmp_ne_f (tgt := 30) E dL_areAlike_23 (by decide) rfl ?_
    refine z_iconst (v := 1) E dL_areAlike_26 (by decide) ?_
    refine z_goto (tgt := 31) E dL_areAlike_27 (by decide) ?_
    refine z_istore_n (lv' := [(2, .int 1), (3, .int (nI w)), (0, .ref (ad 106)), (1, .ref (ap 106))]) E dL_areAlike_31 rfl (by decide) rfl ?_
    refine z_iinc (v := nI w + 1) (lv' := [(3, .int (nI w + 1)), (2, .int 1), (0, .ref (ad 106)), (1, .ref (ap 106))]) E dL_areAlike_32 (q := 1) rfl rfl (by decide) rfl ?_
    refine z_goto (tgt := 4) E dL_areAlike_35 (by decide) ?_
    refine z_eq (ws' := (cw ad cI cR cS mem ++ cw ap cI cR cS pm)) (lv' := [(3, .int (nI (w + 1))), (2, .int 1), (0, .ref (ad 106)), (1, .ref (ap 106))]) (st' := []) rfl (by rw [← nI_1 w]) rfl ?_
    exact ih4 (n4 - 1) (w + 1) (by omega) (by omega)
