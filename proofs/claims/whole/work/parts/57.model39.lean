section
variable {K : KT} {P : PT} {J I : IT} {Q : PQ}
/-- a query can be evaluated: n operators, of which the results are those of one tree -/
def FnOK (I : IT) (s y q : Int) (n : Nat) (w : Nat) (L : List (List Int)) : Prop := (I 262 q = n ∧ n ≤ 12) ∧ (∀ k : Nat, k < n → okS (I 256 (12 * (q + 1) + k)) (I 257 (12 * (q + 1) + k)) (I 258 (12 * (q + 1) + k)) (I 259 (12 * (q + 1) + k)) (evK I s y (12 * (q + 1)) k)) ∧ (∀ k : Nat, k ≤ n → stB (evK I s y (12 * (q + 1)) k) ∧ (evK I s y (12 * (q + 1)) k).length ≤ 3) ∧ evK I s y (12 * (q + 1)) n = [(w, L)]
/-- what evaluating leaves -/
def FnR (I U : IT) (s y q : Int) (n : Nat) (w : Nat) (L : List (List Int)) : Prop := (U 273 0 = L.length ∧ U 274 0 = w ∧ (seg U 270 0 w L.length).Perm L ∧ Ris (seg U 270 0 w L.length) ∧ U 100 75 = bI (evF I s y (12 * (q + 1)) n)) ∧ ∀ (o : Nat) (z : Int), o ≠ 270 → o ≠ 272 → o ≠ 273 → o ≠ 274 → ¬ (o = 100 ∧ (z = 71 ∨ z = 75)) → U o z = I o z
theorem sp_Model_finds {s y q : Int} {n w : Nat} {L : List (List Int)} (hM : MW K P) (hb : MB I) (hq : 0 ≤ q ∧ q < 20) (hs : 0 ≤ s ∧ s ≤ 4) (hf : FnOK I s y q n w L) : Sp m_Model_finds false (rmv 3 75) (exU K P J (.inl none) (fun U => FnR I U s y q n w L)) K P J I [vR (some 100), vI q, vI s, vI y] := by
  refine Sp.ofV (by decide) (Or.inr rfl) rfl ?_
  obtain ⟨⟨hz, hn⟩, hE, hB, hF⟩ := hf
  have loop : ∀ (l k : Nat) (T : IT), k + l = n → EvI I T s y (12 * (q + 1)) k → VW m_Model_finds false (rmv 3 75) (exU K P J (.inl none) (fun U => FnR I U s y q n w L)) K P J T 0 0 16 [(0, vR (some 100)), (1, vI q), (2, vI s), (3, vI y), (4, vI (12 * (q + 1) + (k : Int)))] [] := by
    intro l
    induction l with
    | zero =>
      intro k T hk h
      have ek : k = n := by omega
      have g262 : T 262 q = n := (h.g 262 q (by decide) (by decide)).trans hz
      rw [ek] at h
      obtain ⟨h1, h2, h3, h4⟩ := h
      have hBn := (hB n (Nat.le_refl _)).1
      rw [hF] at h2 h3 hBn
      have so := sp_Model_sorts (K := K) (P := P) (J := J) (I := T) (w := w) (n := L.length) hM h2.1.2.2.1 h2.1.2.1 hBn.1.1 hBn.1.2
      rw [show seg T 270 0 w L.length = L from h2.1.2.2.2] at so
      have fin : ∀ U : IT, ((seg U 270 0 w L.length).Perm L ∧ Ris (seg U 270 0 w L.length) ∧ ∀ (o : Nat) (q : Int), o ≠ 270 → U o q = T o q) → FnR I U s y q n w L := fun U hU =>
        ⟨⟨(hU.2.2 273 0 (by decide)).trans h2.1.2.1, (hU.2.2 274 0 (by decide)).trans h2.1.2.2.1, hU.1, hU.2.1, (hU.2.2 100 75 (by decide)).trans h4⟩, fun o z o1 o2 o3 o4 o5 => (hU.2.2 o z o1).trans (h1 o z o1 o2 o3 o4 o5)⟩
      clear hE hB hF h1 h2 h3 h4 hBn
      refine VW.iload (pc' := 18) d_Model_finds_16 rfl rfl ?_
      refine VW.iload_n (pc' := 19) d_Model_finds_18 rfl rfl ?_
      refine VW.cS (pc' := 22) d_Model_finds_19 rfl ms_Model_base lk_Model_431 rfl rfl rfl (Nat.le_refl _) (Nat.le_refl _) (sp_Model_base (by omega)) rfl rfl ?_
      refine VW.aload_n (pc' := 23) d_Model_finds_22 rfl rfl ?_
      refine VW.gP (ci := 11) (T := T11) (N := 94) (k := 62) (k' := 62) (pc' := 26) d_Model_finds_23 rfl lk_Model_159 in11 rfl rfl rfl rfl (hM.k rfl) (hM.p (r := some 262) 62 rfl rfl) ?_
      refine VW.iload_n (pc' := 27) d_Model_finds_26 rfl rfl ?_
      refine VW.ild (pc' := 28) d_Model_finds_27 rfl (hM.k rfl) (by omega) (by omega) (by first | exact g262 | rfl) ?_
      refine VW.iadd (pc' := 29) d_Model_finds_28 rfl (by omega) ?_
      refine VW.icmp_ge (tgt := 151) (pc' := 32) d_Model_finds_29 rfl rfl (fun c29 => ?_) (fun c29 => ?_)
      · refine VW.aload_n (pc' := 152) d_Model_finds_151 rfl rfl ?_
        refine VW.cVu (ci := 11) (T := T11) (N := 94) (pc' := 155) d_Model_finds_152 rfl mv_Model_sorts lk_Model_483 rfl (hM.k rfl) rfl rfl rfl (Nat.le_refl _) (Nat.le_refl _) (so) rfl rfl (fun U hU => ?_)
        exact VW.vret d_Model_finds_155 rfl (Nat.zero_le _) (Nat.zero_le _) (exU_mk (fin U hU))
      · exfalso; omega
    | succ l ih =>
      intro k T hk h
      have g262 : T 262 q = n := (h.g 262 q (by decide) (by decide)).trans hz
      have g256 := h.g 256 (12 * (q + 1) + k) (by decide) (by decide)
      have g257 := h.g 257 (12 * (q + 1) + k) (by decide) (by decide)
      have ek : ((k + 1 : Nat) : Int) = (k : Int) + 1 := by omega
      have nx := fun U hU => ih (k + 1) U (by omega) hU
      rw [ek, ← Int.add_assoc] at nx
      have hok := hE k (by omega)
      have b1 := hB k (by omega)
      have b2 := hB (k + 1) (by omega)
      have hx : 0 ≤ 12 * (q + 1) + (k : Int) ∧ 12 * (q + 1) + (k : Int) < 252 := by omega
      have eS := ev_scans (J := J) hM hb h hok b1.1 b2.1 b1.2 hx hs
      have eF := ev_filters (J := J) hM hb h hok b1.1 b2.1 b1.2 hx
      have eJ := ev_joins (J := J) hM hb h hok b1.1 b2.1 b1.2 hx
      have eK := ev_keeps (J := J) hM hb h hok b1.1 b2.1 b1.2 hx
      have eG := ev_groups (J := J) hM hb h hok b1.1 b2.1 b1.2 hx
      have eC := ev_combines (J := J) hM hb h hok b1.1 b2.1 b1.2 hx
      clear ih hE hB hF hok b1 b2 h
      refine VW.iload (pc' := 18) d_Model_finds_16 rfl rfl ?_
      refine VW.iload_n (pc' := 19) d_Model_finds_18 rfl rfl ?_
      refine VW.cS (pc' := 22) d_Model_finds_19 rfl ms_Model_base lk_Model_431 rfl rfl rfl (Nat.le_refl _) (Nat.le_refl _) (sp_Model_base (by omega)) rfl rfl ?_
      refine VW.aload_n (pc' := 23) d_Model_finds_22 rfl rfl ?_
      refine VW.gP (ci := 11) (T := T11) (N := 94) (k := 62) (k' := 62) (pc' := 26) d_Model_finds_23 rfl lk_Model_159 in11 rfl rfl rfl rfl (hM.k rfl) (hM.p (r := some 262) 62 rfl rfl) ?_
      refine VW.iload_n (pc' := 27) d_Model_finds_26 rfl rfl ?_
      refine VW.ild (pc' := 28) d_Model_finds_27 rfl (hM.k rfl) (by omega) (by omega) (by first | exact g262 | exact g256 | exact g257 | rfl) ?_
      refine VW.iadd (pc' := 29) d_Model_finds_28 rfl (by omega) ?_
      refine VW.icmp_ge (tgt := 151) (pc' := 32) d_Model_finds_29 rfl rfl (fun c29 => ?_) (fun c29 => ?_)
      · exfalso; omega
      · refine VW.aload_n (pc' := 33) d_Model_finds_32 rfl rfl ?_
        refine VW.gP (ci := 11) (T := T11) (N := 94) (k := 56) (k' := 56) (pc' := 36) d_Model_finds_33 rfl lk_Model_144 in11 rfl rfl rfl rfl (hM.k rfl) (hM.p (r := some 256) 56 rfl rfl) ?_
        refine VW.iload (pc' := 38) d_Model_finds_36 rfl rfl ?_
        refine VW.ild (pc' := 39) d_Model_finds_38 rfl (hM.k rfl) (by omega) (by omega) (by first | exact g262 | exact g256 | exact g257 | rfl) ?_
        refine VW.if_ne (tgt := 58) (pc' := 42) d_Model_finds_39 rfl rfl (fun c39 => ?_) (fun c39 => ?_)
        · try have e39 := bIn c39
          refine VW.aload_n (pc' := 59) d_Model_finds_58 rfl rfl ?_
          refine VW.gP (ci := 11) (T := T11) (N := 94) (k := 56) (k' := 56) (pc' := 62) d_Model_finds_59 rfl lk_Model_144 in11 rfl rfl rfl rfl (hM.k rfl) (hM.p (r := some 256) 56 rfl rfl) ?_
          refine VW.iload (pc' := 64) d_Model_finds_62 rfl rfl ?_
          refine VW.ild (pc' := 65) d_Model_finds_64 rfl (hM.k rfl) (by omega) (by omega) (by first | exact g262 | exact g256 | exact g257 | rfl) ?_
          refine VW.iconst (pc' := 66) d_Model_finds_65 rfl (by decide) ?_
          refine VW.icmp_gt (tgt := 78) (pc' := 69) d_Model_finds_66 rfl rfl (fun c66 => ?_) (fun c66 => ?_)
          · refine VW.aload_n (pc' := 79) d_Model_finds_78 rfl rfl ?_
            refine VW.gP (ci := 11) (T := T11) (N := 94) (k := 56) (k' := 56) (pc' := 82) d_Model_finds_79 rfl lk_Model_144 in11 rfl rfl rfl rfl (hM.k rfl) (hM.p (r := some 256) 56 rfl rfl) ?_
            refine VW.iload (pc' := 84) d_Model_finds_82 rfl rfl ?_
            refine VW.ild (pc' := 85) d_Model_finds_84 rfl (hM.k rfl) (by omega) (by omega) (by first | exact g262 | exact g256 | exact g257 | rfl) ?_
            refine VW.iconst (pc' := 86) d_Model_finds_85 rfl (by decide) ?_
            refine VW.icmp_ne (tgt := 98) (pc' := 89) d_Model_finds_86 rfl rfl (fun c86 => ?_) (fun c86 => ?_)
            · refine VW.aload_n (pc' := 99) d_Model_finds_98 rfl rfl ?_
              refine VW.gP (ci := 11) (T := T11) (N := 94) (k := 56) (k' := 56) (pc' := 102) d_Model_finds_99 rfl lk_Model_144 in11 rfl rfl rfl rfl (hM.k rfl) (hM.p (r := some 256) 56 rfl rfl) ?_
              refine VW.iload (pc' := 104) d_Model_finds_102 rfl rfl ?_
              refine VW.ild (pc' := 105) d_Model_finds_104 rfl (hM.k rfl) (by omega) (by omega) (by first | exact g262 | exact g256 | exact g257 | rfl) ?_
              refine VW.iconst (pc' := 106) d_Model_finds_105 rfl (by decide) ?_
              refine VW.icmp_ne (tgt := 118) (pc' := 109) d_Model_finds_106 rfl rfl (fun c106 => ?_) (fun c106 => ?_)
              · refine VW.aload_n (pc' := 119) d_Model_finds_118 rfl rfl ?_
                refine VW.gP (ci := 11) (T := T11) (N := 94) (k := 56) (k' := 56) (pc' := 122) d_Model_finds_119 rfl lk_Model_144 in11 rfl rfl rfl rfl (hM.k rfl) (hM.p (r := some 256) 56 rfl rfl) ?_
                refine VW.iload (pc' := 124) d_Model_finds_122 rfl rfl ?_
                refine VW.ild (pc' := 125) d_Model_finds_124 rfl (hM.k rfl) (by omega) (by omega) (by first | exact g262 | exact g256 | exact g257 | rfl) ?_
                refine VW.bipush (pc' := 127) d_Model_finds_125 rfl (by decide) ?_
                refine VW.icmp_ne (tgt := 139) (pc' := 130) d_Model_finds_127 rfl rfl (fun c127 => ?_) (fun c127 => ?_)
                · obtain ⟨φ, sp, nt⟩ := eC (by omega) c86 c106 c127
                  refine VW.aload_n (pc' := 140) d_Model_finds_139 rfl rfl ?_
                  refine VW.iload (pc' := 142) d_Model_finds_140 rfl rfl ?_
                  refine VW.cVu (ci := 11) (T := T11) (N := 94) (pc' := 145) d_Model_finds_142 rfl mv_Model_combines lk_Model_480 rfl (hM.k rfl) rfl rfl rfl (Nat.le_refl _) (Nat.le_refl _) (sp) rfl rfl (fun U hU => ?_)
                  refine VW.iinc (pc' := 148) d_Model_finds_145 rfl rfl rfl (by omega) ?_
                  refine VW.goto (pc' := 16) d_Model_finds_148 rfl ?_
                  refine VW.nrm ?_
                  exact nx U (nt U hU)
                · obtain ⟨φ, sp, nt⟩ := eG c127
                  refine VW.aload_n (pc' := 131) d_Model_finds_130 rfl rfl ?_
                  refine VW.iload (pc' := 133) d_Model_finds_131 rfl rfl ?_
                  refine VW.cVu (ci := 11) (T := T11) (N := 94) (pc' := 136) d_Model_finds_133 rfl mv_Model_groups lk_Model_477 rfl (hM.k rfl) rfl rfl rfl (Nat.le_refl _) (Nat.le_refl _) (sp) rfl rfl (fun U hU => ?_)
                  refine VW.goto (pc' := 145) d_Model_finds_136 rfl ?_
                  refine VW.iinc (pc' := 148) d_Model_finds_145 rfl rfl rfl (by omega) ?_
                  refine VW.goto (pc' := 16) d_Model_finds_148 rfl ?_
                  refine VW.nrm ?_
                  exact nx U (nt U hU)
              · obtain ⟨φ, sp, nt⟩ := eK c106
                refine VW.aload_n (pc' := 110) d_Model_finds_109 rfl rfl ?_
                refine VW.iload (pc' := 112) d_Model_finds_110 rfl rfl ?_
                refine VW.cVu (ci := 11) (T := T11) (N := 94) (pc' := 115) d_Model_finds_112 rfl mv_Model_keeps lk_Model_474 rfl (hM.k rfl) rfl rfl rfl (Nat.le_refl _) (Nat.le_refl _) (sp) rfl rfl (fun U hU => ?_)
                refine VW.goto (pc' := 145) d_Model_finds_115 rfl ?_
                refine VW.iinc (pc' := 148) d_Model_finds_145 rfl rfl rfl (by omega) ?_
                refine VW.goto (pc' := 16) d_Model_finds_148 rfl ?_
                refine VW.nrm ?_
                exact nx U (nt U hU)
            · obtain ⟨φ, sp, nt⟩ := eJ c86
              refine VW.aload_n (pc' := 90) d_Model_finds_89 rfl rfl ?_
              refine VW.iload (pc' := 92) d_Model_finds_90 rfl rfl ?_
              refine VW.cVu (ci := 11) (T := T11) (N := 94) (pc' := 95) d_Model_finds_92 rfl mv_Model_joins lk_Model_471 rfl (hM.k rfl) rfl rfl rfl (Nat.le_refl _) (Nat.le_refl _) (sp) rfl rfl (fun U hU => ?_)
              refine VW.goto (pc' := 145) d_Model_finds_95 rfl ?_
              refine VW.iinc (pc' := 148) d_Model_finds_145 rfl rfl rfl (by omega) ?_
              refine VW.goto (pc' := 16) d_Model_finds_148 rfl ?_
              refine VW.nrm ?_
              exact nx U (nt U hU)
          · obtain ⟨φ, sp, nt⟩ := eF c39 (by omega)
            refine VW.aload_n (pc' := 70) d_Model_finds_69 rfl rfl ?_
            refine VW.iload (pc' := 72) d_Model_finds_70 rfl rfl ?_
            refine VW.cVu (ci := 11) (T := T11) (N := 94) (pc' := 75) d_Model_finds_72 rfl mv_Model_filters lk_Model_468 rfl (hM.k rfl) rfl rfl rfl (Nat.le_refl _) (Nat.le_refl _) (sp) rfl rfl (fun U hU => ?_)
            refine VW.goto (pc' := 145) d_Model_finds_75 rfl ?_
            refine VW.iinc (pc' := 148) d_Model_finds_145 rfl rfl rfl (by omega) ?_
            refine VW.goto (pc' := 16) d_Model_finds_148 rfl ?_
            refine VW.nrm ?_
            exact nx U (nt U hU)
        · try have e39 := bIe c39
          obtain ⟨φ, sp, nt⟩ := eS c39
          refine VW.aload_n (pc' := 43) d_Model_finds_42 rfl rfl ?_
          refine VW.iload_n (pc' := 44) d_Model_finds_43 rfl rfl ?_
          refine VW.iload_n (pc' := 45) d_Model_finds_44 rfl rfl ?_
          refine VW.aload_n (pc' := 46) d_Model_finds_45 rfl rfl ?_
          refine VW.gP (ci := 11) (T := T11) (N := 94) (k := 57) (k' := 57) (pc' := 49) d_Model_finds_46 rfl lk_Model_147 in11 rfl rfl rfl rfl (hM.k rfl) (hM.p (r := some 257) 57 rfl rfl) ?_
          refine VW.iload (pc' := 51) d_Model_finds_49 rfl rfl ?_
          refine VW.ild (pc' := 52) d_Model_finds_51 rfl (hM.k rfl) (by omega) (by omega) (by first | exact g262 | exact g256 | exact g257 | rfl) ?_
          refine VW.cVu (ci := 11) (T := T11) (N := 94) (pc' := 55) d_Model_finds_52 rfl mv_Model_scans lk_Model_466 rfl (hM.k rfl) rfl rfl rfl (Nat.le_refl _) (Nat.le_refl _) (sp) rfl rfl (fun U hU => ?_)
          refine VW.goto (pc' := 145) d_Model_finds_55 rfl ?_
          refine VW.iinc (pc' := 148) d_Model_finds_145 rfl rfl rfl (by omega) ?_
          refine VW.goto (pc' := 16) d_Model_finds_148 rfl ?_
          refine VW.nrm ?_
          exact nx U (nt U hU)
  have l := loop n 0 (up2 (up2 I 100 71 0) 100 75 0) (by omega) ⟨fun o z o1 o2 o3 o4 o5 => (if_neg (by omega)).trans (if_neg (by omega)), trivial, (up2_k _ _ _ _ (by decide)).trans (up2_eq _ _ _ _), (up2_eq _ _ _ _).trans (bI0 (fun z => z)).symm⟩
  rw [show (((0 : Nat) : Int)) = 0 from rfl, Int.add_zero] at l
  clear loop hE hB hF
  refine VW.aload_n (pc' := 1) d_Model_finds_0 rfl rfl ?_
  refine VW.iconst (pc' := 2) d_Model_finds_1 rfl (by decide) ?_
  refine VW.pI (ci := 11) (T := T11) (N := 94) (k := 71) (k' := 71) (ty := ty11) (pc' := 5) d_Model_finds_2 rfl lk_Model_434 in11 tk11 nm11 rfl rfl rfl rfl rfl rfl (hM.k rfl) ?_
  refine VW.aload_n (pc' := 6) d_Model_finds_5 rfl rfl ?_
  refine VW.iconst (pc' := 7) d_Model_finds_6 rfl (by decide) ?_
  refine VW.pZ (ci := 11) (T := T11) (N := 94) (k := 75) (k' := 75) (ty := ty11) (pc' := 10) d_Model_finds_7 rfl lk_Model_440 in11 tk11 nm11 rfl rfl rfl rfl rfl rfl (by omega) (hM.k rfl) ?_
  refine VW.iload_n (pc' := 11) d_Model_finds_10 rfl rfl ?_
  refine VW.cS (pc' := 14) d_Model_finds_11 rfl ms_Model_base lk_Model_431 rfl rfl rfl (Nat.le_refl _) (Nat.le_refl _) (sp_Model_base (by omega)) rfl rfl ?_
  refine VW.istore (pc' := 16) d_Model_finds_14 rfl rfl ?_
  refine VW.nrm ?_
  exact l
end
