section
variable {K : KT} {P : PT} {J I : IT}
theorem lgLst_1 {T : IT} {d c k : Nat} {t y q : Int} (h1 : T d ((k : Int) * 8) = 0) (h2 : T d ((k : Int) * 8 + 2) = t) (h3 : T d ((k : Int) * 8 + 3) = y) (h4 : T c (T d ((k : Int) * 8 + 1)) ≠ 0) : lgLst T d c t y q (k + 1) = T d ((k : Int) * 8 + 4 + q) := if_pos ⟨h1, h2, h3, h4⟩
theorem lgLst_0 {T : IT} {d c k : Nat} {t y q : Int} (h : ¬ (T d ((k : Int) * 8) = 0 ∧ T d ((k : Int) * 8 + 2) = t ∧ T d ((k : Int) * 8 + 3) = y ∧ T c (T d ((k : Int) * 8 + 1)) ≠ 0)) : lgLst T d c t y q (k + 1) = lgLst T d c t y q k := if_neg h
theorem lgCom_g {g d c : Nat} (h : g ≠ c) : ∀ (l k : Nat) (T : IT), lgCom d c l k T g 0 = T g 0 := by
  intro l
  induction l with
  | zero => intro k T; rfl
  | succ l ih =>
    intro k T
    show (if T d ((k : Int) * 8) = 1 then _ else _ : IT) g 0 = _
    split
    · rw [ih]; exact up2_o _ _ _ _ h
    · exact ih _ _
/-- from the last record down, at the heap T -/
theorem lg_down {g d n c m : Nat} {t y q : Int} {N : Nat} {T : IT} (hG : LgW K P g d n c m) (hL : LgB T g d n) (hq : 0 ≤ q ∧ q < 4) (hN : T g 0 = N) : VW m_Log_lastCommittedCell false (rmv 1 21) (ex K P J T (.inl (some (vI (lgLst T d c t y q N))))) K P J T 0 0 67 [(0, vR (some g)), (1, vI t), (2, vI y), (3, vI q)] [] := by
  have loop : ∀ k : Nat, k ≤ N → lgLst T d c t y q k = lgLst T d c t y q N → VW m_Log_lastCommittedCell false (rmv 1 21) (ex K P J T (.inl (some (vI (lgLst T d c t y q N))))) K P J T 0 0 75 [(0, vR (some g)), (1, vI t), (2, vI y), (3, vI q), (4, vI ((k : Int) - 1))] [] := by
    have hl := hL.1
    intro k
    induction k with
    | zero =>
      intro hk e
      have e' : lgLst T d c t y q N = -2147483648 := e.symm
      clear e
      refine VW.iload (pc' := 77) d_Log_lastCommittedCell_75 rfl rfl ?_
      refine VW.if_lt (tgt := 144) (pc' := 80) d_Log_lastCommittedCell_77 rfl rfl (fun c77 => ?_) (fun c77 => ?_)
      · refine VW.ldc (pc' := 146) (z := -2147483648) d_Log_lastCommittedCell_144 rfl lk_Log_32 (by decide) (by decide) ?_
        exact VW.iret d_Log_lastCommittedCell_146 rfl rfl (Nat.zero_le _) (Nat.zero_le _) (by rw [e']; exact ex_rf)
      · exfalso; omega
    | succ k ih =>
      intro hk e
      have hw := hL.2 k (by omega) (by omega)
      rw [show ((k + 1 : Nat) : Int) - 1 = k by omega]
      have ih1 := ih (by omega)
      have no : ¬ (T d ((k : Int) * 8) = 0 ∧ T d ((k : Int) * 8 + 2) = t ∧ T d ((k : Int) * 8 + 3) = y ∧ T c (T d ((k : Int) * 8 + 1)) ≠ 0) → VW m_Log_lastCommittedCell false (rmv 1 21) (ex K P J T (.inl (some (vI (lgLst T d c t y q N))))) K P J T 0 0 75 [(0, vR (some g)), (1, vI t), (2, vI y), (3, vI q), (4, vI ((k : Int) - 1))] [] := fun z => ih1 ((lgLst_0 z).symm.trans e)
      have yes : T d ((k : Int) * 8) = 0 → T d ((k : Int) * 8 + 2) = t → T d ((k : Int) * 8 + 3) = y → T c (T d ((k : Int) * 8 + 1)) ≠ 0 → T d ((k : Int) * 8 + 4 + q) = lgLst T d c t y q N := fun z1 z2 z3 z4 => (lgLst_1 z1 z2 z3 z4).symm.trans e
      clear ih ih1 e
      refine VW.iload (pc' := 77) d_Log_lastCommittedCell_75 rfl rfl ?_
      refine VW.if_lt (tgt := 144) (pc' := 80) d_Log_lastCommittedCell_77 rfl rfl (fun c77 => ?_) (fun c77 => ?_)
      · exfalso; omega
      · refine VW.aload_n (pc' := 81) d_Log_lastCommittedCell_80 rfl rfl ?_
        refine VW.iload (pc' := 83) d_Log_lastCommittedCell_81 rfl rfl ?_
        refine VW.cV (ci := 2) (T := T2) (N := 5) (pc' := 86) d_Log_lastCommittedCell_83 rfl mv_Log_kindOf lk_Log_63 rfl (by first | exact hG.1 | exact hG.2.1.2 | exact hG.2.2.1.2 | exact hG.2.2.2.2) rfl rfl rfl (Nat.le_refl _) (Nat.le_refl _) (sp_Log_kindOf hG (by omega)) rfl rfl ?_
        refine VW.if_ne (tgt := 138) (pc' := 89) d_Log_lastCommittedCell_86 rfl rfl (fun c86 => ?_) (fun c86 => ?_)
        · try have e86 := bIn c86
          refine VW.iinc (pc' := 141) d_Log_lastCommittedCell_138 rfl rfl rfl (by omega) ?_
          refine VW.goto (pc' := 75) d_Log_lastCommittedCell_141 rfl ?_
          refine VW.nrm ?_
          first | exact no (fun h => c120 h.2.2.2) | exact no (fun h => h.2.2.2 c120) | exact no (fun h => c106 h.2.2.1) | exact no (fun h => c96 h.2.1) | exact no (fun h => c86 h.1)
        · try have e86 := bIe c86
          refine VW.aload_n (pc' := 90) d_Log_lastCommittedCell_89 rfl rfl ?_
          refine VW.iload (pc' := 92) d_Log_lastCommittedCell_90 rfl rfl ?_
          refine VW.cV (ci := 2) (T := T2) (N := 5) (pc' := 95) d_Log_lastCommittedCell_92 rfl mv_Log_tableOf lk_Log_72 rfl (by first | exact hG.1 | exact hG.2.1.2 | exact hG.2.2.1.2 | exact hG.2.2.2.2) rfl rfl rfl (Nat.le_refl _) (Nat.le_refl _) (sp_Log_tableOf hG (by omega)) rfl rfl ?_
          refine VW.iload_n (pc' := 96) d_Log_lastCommittedCell_95 rfl rfl ?_
          refine VW.icmp_ne (tgt := 138) (pc' := 99) d_Log_lastCommittedCell_96 rfl rfl (fun c96 => ?_) (fun c96 => ?_)
          · refine VW.iinc (pc' := 141) d_Log_lastCommittedCell_138 rfl rfl rfl (by omega) ?_
            refine VW.goto (pc' := 75) d_Log_lastCommittedCell_141 rfl ?_
            refine VW.nrm ?_
            first | exact no (fun h => c120 h.2.2.2) | exact no (fun h => h.2.2.2 c120) | exact no (fun h => c106 h.2.2.1) | exact no (fun h => c96 h.2.1) | exact no (fun h => c86 h.1)
          · refine VW.aload_n (pc' := 100) d_Log_lastCommittedCell_99 rfl rfl ?_
            refine VW.iload (pc' := 102) d_Log_lastCommittedCell_100 rfl rfl ?_
            refine VW.cV (ci := 2) (T := T2) (N := 5) (pc' := 105) d_Log_lastCommittedCell_102 rfl mv_Log_keyOf lk_Log_75 rfl (by first | exact hG.1 | exact hG.2.1.2 | exact hG.2.2.1.2 | exact hG.2.2.2.2) rfl rfl rfl (Nat.le_refl _) (Nat.le_refl _) (sp_Log_keyOf hG (by omega)) rfl rfl ?_
            refine VW.iload_n (pc' := 106) d_Log_lastCommittedCell_105 rfl rfl ?_
            refine VW.icmp_ne (tgt := 138) (pc' := 109) d_Log_lastCommittedCell_106 rfl rfl (fun c106 => ?_) (fun c106 => ?_)
            · refine VW.iinc (pc' := 141) d_Log_lastCommittedCell_138 rfl rfl rfl (by omega) ?_
              refine VW.goto (pc' := 75) d_Log_lastCommittedCell_141 rfl ?_
              refine VW.nrm ?_
              first | exact no (fun h => c120 h.2.2.2) | exact no (fun h => h.2.2.2 c120) | exact no (fun h => c106 h.2.2.1) | exact no (fun h => c96 h.2.1) | exact no (fun h => c86 h.1)
            · refine VW.aload_n (pc' := 110) d_Log_lastCommittedCell_109 rfl rfl ?_
              refine VW.gP (ci := 2) (T := T2) (N := 5) (k := 3) (k' := 3) (pc' := 113) d_Log_lastCommittedCell_110 rfl lk_Log_15 in2 rfl rfl rfl rfl (by first | exact hG.1 | exact hG.2.1.2 | exact hG.2.2.1.2 | exact hG.2.2.2.2) (by first | exact hG.2.1.1 | exact hG.2.2.1.1 | exact hG.2.2.2.1 | rfl) ?_
              refine VW.aload_n (pc' := 114) d_Log_lastCommittedCell_113 rfl rfl ?_
              refine VW.iload (pc' := 116) d_Log_lastCommittedCell_114 rfl rfl ?_
              refine VW.cV (ci := 2) (T := T2) (N := 5) (pc' := 119) d_Log_lastCommittedCell_116 rfl mv_Log_writerOf lk_Log_66 rfl (by first | exact hG.1 | exact hG.2.1.2 | exact hG.2.2.1.2 | exact hG.2.2.2.2) rfl rfl rfl (Nat.le_refl _) (Nat.le_refl _) (sp_Log_writerOf hG (by omega)) rfl rfl ?_
              refine VW.zld (pc' := 120) d_Log_lastCommittedCell_119 rfl (by first | exact hG.1 | exact hG.2.1.2 | exact hG.2.2.1.2 | exact hG.2.2.2.2) (by omega) (by omega) (by first | exact hG.2.1.1 | exact hG.2.2.1.1 | exact hG.2.2.2.1 | rfl) ?_
              refine VW.if_eq (tgt := 138) (pc' := 123) d_Log_lastCommittedCell_120 rfl rfl (fun c120 => ?_) (fun c120 => ?_)
              · try have e120 := bIe c120
                refine VW.iinc (pc' := 141) d_Log_lastCommittedCell_138 rfl rfl rfl (by omega) ?_
                refine VW.goto (pc' := 75) d_Log_lastCommittedCell_141 rfl ?_
                refine VW.nrm ?_
                first | exact no (fun h => c120 h.2.2.2) | exact no (fun h => h.2.2.2 c120) | exact no (fun h => c106 h.2.2.1) | exact no (fun h => c96 h.2.1) | exact no (fun h => c86 h.1)
              · try have e120 := bIn c120
                refine VW.aload_n (pc' := 124) d_Log_lastCommittedCell_123 rfl rfl ?_
                refine VW.gP (ci := 2) (T := T2) (N := 5) (k := 2) (k' := 2) (pc' := 127) d_Log_lastCommittedCell_124 rfl lk_Log_11 in2 rfl rfl rfl rfl (by first | exact hG.1 | exact hG.2.1.2 | exact hG.2.2.1.2 | exact hG.2.2.2.2) (by first | exact hG.2.1.1 | exact hG.2.2.1.1 | exact hG.2.2.2.1 | rfl) ?_
                refine VW.iload (pc' := 129) d_Log_lastCommittedCell_127 rfl rfl ?_
                refine VW.bipush (pc' := 131) d_Log_lastCommittedCell_129 rfl (by decide) ?_
                refine VW.imul (pc' := 132) d_Log_lastCommittedCell_131 rfl (by omega) ?_
                refine VW.iconst (pc' := 133) d_Log_lastCommittedCell_132 rfl (by decide) ?_
                refine VW.iadd (pc' := 134) d_Log_lastCommittedCell_133 rfl (by omega) ?_
                refine VW.iload_n (pc' := 135) d_Log_lastCommittedCell_134 rfl rfl ?_
                refine VW.iadd (pc' := 136) d_Log_lastCommittedCell_135 rfl (by omega) ?_
                refine VW.ild (pc' := 137) d_Log_lastCommittedCell_136 rfl (by first | exact hG.1 | exact hG.2.1.2 | exact hG.2.2.1.2 | exact hG.2.2.2.2) (by omega) (by omega) (by first | exact hG.2.1.1 | exact hG.2.2.1.1 | exact hG.2.2.2.1 | rfl) ?_
                exact VW.iret d_Log_lastCommittedCell_137 rfl rfl (Nat.zero_le _) (Nat.zero_le _) (ex_v (yes c86 c96 c106 c120).symm)
  have l := loop N (Nat.le_refl _) rfl
  rw [← hN] at l
  have hl := hL.1
  clear loop
  refine VW.aload_n (pc' := 68) d_Log_lastCommittedCell_67 rfl rfl ?_
  refine VW.gI (ci := 2) (T := T2) (N := 5) (k := 0) (k' := 0) (pc' := 71) d_Log_lastCommittedCell_68 rfl lk_Log_22 in2 rfl rfl rfl rfl (by first | exact hG.1 | exact hG.2.1.2 | exact hG.2.2.1.2 | exact hG.2.2.2.2) (by first | exact hG.2.1.1 | exact hG.2.2.1.1 | exact hG.2.2.2.1 | rfl) ?_
  refine VW.iconst (pc' := 72) d_Log_lastCommittedCell_71 rfl (by decide) ?_
  refine VW.isub (pc' := 73) d_Log_lastCommittedCell_72 rfl (by omega) ?_
  refine VW.istore (pc' := 75) d_Log_lastCommittedCell_73 rfl rfl ?_
  refine VW.nrm ?_
  exact l
theorem sp_Log_lastCommittedCell {g d n c m : Nat} {t y q : Int} (hG : LgW K P g d n c m) (hL : LgB I g d n) (hq : 0 ≤ q ∧ q < 4) : Sp m_Log_lastCommittedCell false (rmv 1 21) (ex K P J (lgCom d c (I g 0).toNat 0 (filI I c 0 60 0)) (.inl (some (vI (lgLst (lgCom d c (I g 0).toNat 0 (filI I c 0 60 0)) d c t y q (I g 0).toNat))))) K P J I [vR (some g), vI t, vI y, vI q] := by
  refine Sp.ofV (by decide) (Or.inr rfl) rfl ?_
  obtain ⟨⟨n1, n2⟩, n3, n4⟩ := hG.ne
  have loop : ∀ (N l k : Nat) (T : IT), k + l = N → T g 0 = N → LgB T g d n → VW m_Log_lastCommittedCell false (rmv 1 21) (ex K P J (lgCom d c l k T) (.inl (some (vI (lgLst (lgCom d c l k T) d c t y q N))))) K P J T 0 0 30 [(0, vR (some g)), (1, vI t), (2, vI y), (3, vI q), (4, vI (k : Int))] [] := by
    intro N l
    induction l with
    | zero =>
      intro k T hk hT hL
      have hl := hL.1
      show VW m_Log_lastCommittedCell false (rmv 1 21) (ex K P J T (.inl (some (vI (lgLst T d c t y q N))))) K P J T 0 0 30 [(0, vR (some g)), (1, vI t), (2, vI y), (3, vI q), (4, vI (k : Int))] []
      have dn := lg_down (J := J) (t := t) (y := y) hG hL hq hT
      clear n1 n2 n3 n4
      refine VW.iload (pc' := 32) d_Log_lastCommittedCell_30 rfl rfl ?_
      refine VW.aload_n (pc' := 33) d_Log_lastCommittedCell_32 rfl rfl ?_
      refine VW.gI (ci := 2) (T := T2) (N := 5) (k := 0) (k' := 0) (pc' := 36) d_Log_lastCommittedCell_33 rfl lk_Log_22 in2 rfl rfl rfl rfl (by first | exact hG.1 | exact hG.2.1.2 | exact hG.2.2.1.2 | exact hG.2.2.2.2) (by first | exact hG.2.1.1 | exact hG.2.2.1.1 | exact hG.2.2.2.1 | rfl) ?_
      refine VW.icmp_ge (tgt := 67) (pc' := 39) d_Log_lastCommittedCell_36 rfl rfl (fun c36 => ?_) (fun c36 => ?_)
      · refine VW.pick [0, 1, 2, 3] ?_
        exact dn
      · exfalso; omega
    | succ l ih =>
      intro k T hk hT hL
      have hl := hL.1
      have hw := hL.2 k (by omega) (by omega)
      have ec : ((k + 1 : Nat) : Int) = (k : Int) + 1 := by omega
      have nx := ih (k + 1)
      rw [ec] at nx
      have u : ∀ w v : Int, up2 T c w v g 0 = T g 0 := fun w v => up2_o _ _ _ _ n3
      have y0 : T d ((k : Int) * 8) = 1 → VW m_Log_lastCommittedCell false (rmv 1 21) (ex K P J (lgCom d c (l + 1) k T) (.inl (some (vI (lgLst (lgCom d c (l + 1) k T) d c t y q N))))) K P J (up2 T c (T d ((k : Int) * 8 + 1)) 1) 0 0 30 [(0, vR (some g)), (1, vI t), (2, vI y), (3, vI q), (4, vI ((k : Int) + 1))] [] := fun z => by
        have e : lgCom d c (l + 1) k T = _ := if_pos z
        rw [e]
        exact nx _ (by omega) (by rw [u]; exact hT) (hL.up n3 n4)
      have y1 : ¬ T d ((k : Int) * 8) = 1 → VW m_Log_lastCommittedCell false (rmv 1 21) (ex K P J (lgCom d c (l + 1) k T) (.inl (some (vI (lgLst (lgCom d c (l + 1) k T) d c t y q N))))) K P J T 0 0 30 [(0, vR (some g)), (1, vI t), (2, vI y), (3, vI q), (4, vI ((k : Int) + 1))] [] := fun z => by
        have e : lgCom d c (l + 1) k T = _ := if_neg z
        rw [e]
        exact nx _ (by omega) hT hL
      clear ih nx hL u n1 n2 n3 n4
      refine VW.iload (pc' := 32) d_Log_lastCommittedCell_30 rfl rfl ?_
      refine VW.aload_n (pc' := 33) d_Log_lastCommittedCell_32 rfl rfl ?_
      refine VW.gI (ci := 2) (T := T2) (N := 5) (k := 0) (k' := 0) (pc' := 36) d_Log_lastCommittedCell_33 rfl lk_Log_22 in2 rfl rfl rfl rfl (by first | exact hG.1 | exact hG.2.1.2 | exact hG.2.2.1.2 | exact hG.2.2.2.2) (by first | exact hG.2.1.1 | exact hG.2.2.1.1 | exact hG.2.2.2.1 | rfl) ?_
      refine VW.icmp_ge (tgt := 67) (pc' := 39) d_Log_lastCommittedCell_36 rfl rfl (fun c36 => ?_) (fun c36 => ?_)
      · exfalso; omega
      · refine VW.aload_n (pc' := 40) d_Log_lastCommittedCell_39 rfl rfl ?_
        refine VW.iload (pc' := 42) d_Log_lastCommittedCell_40 rfl rfl ?_
        refine VW.cV (ci := 2) (T := T2) (N := 5) (pc' := 45) d_Log_lastCommittedCell_42 rfl mv_Log_kindOf lk_Log_63 rfl (by first | exact hG.1 | exact hG.2.1.2 | exact hG.2.2.1.2 | exact hG.2.2.2.2) rfl rfl rfl (Nat.le_refl _) (Nat.le_refl _) (sp_Log_kindOf hG (by omega)) rfl rfl ?_
        refine VW.iconst (pc' := 46) d_Log_lastCommittedCell_45 rfl (by decide) ?_
        refine VW.icmp_ne (tgt := 61) (pc' := 49) d_Log_lastCommittedCell_46 rfl rfl (fun c46 => ?_) (fun c46 => ?_)
        · refine VW.iinc (pc' := 64) d_Log_lastCommittedCell_61 rfl rfl rfl (by omega) ?_
          refine VW.goto (pc' := 30) d_Log_lastCommittedCell_64 rfl ?_
          refine VW.nrm ?_
          first | exact y0 c46 | exact y1 c46
        · refine VW.aload_n (pc' := 50) d_Log_lastCommittedCell_49 rfl rfl ?_
          refine VW.gP (ci := 2) (T := T2) (N := 5) (k := 3) (k' := 3) (pc' := 53) d_Log_lastCommittedCell_50 rfl lk_Log_15 in2 rfl rfl rfl rfl (by first | exact hG.1 | exact hG.2.1.2 | exact hG.2.2.1.2 | exact hG.2.2.2.2) (by first | exact hG.2.1.1 | exact hG.2.2.1.1 | exact hG.2.2.2.1 | rfl) ?_
          refine VW.aload_n (pc' := 54) d_Log_lastCommittedCell_53 rfl rfl ?_
          refine VW.iload (pc' := 56) d_Log_lastCommittedCell_54 rfl rfl ?_
          refine VW.cV (ci := 2) (T := T2) (N := 5) (pc' := 59) d_Log_lastCommittedCell_56 rfl mv_Log_writerOf lk_Log_66 rfl (by first | exact hG.1 | exact hG.2.1.2 | exact hG.2.2.1.2 | exact hG.2.2.2.2) rfl rfl rfl (Nat.le_refl _) (Nat.le_refl _) (sp_Log_writerOf hG (by omega)) rfl rfl ?_
          refine VW.iconst (pc' := 60) d_Log_lastCommittedCell_59 rfl (by decide) ?_
          refine VW.zast (pc' := 61) d_Log_lastCommittedCell_60 rfl (by first | exact hG.1 | exact hG.2.1.2 | exact hG.2.2.1.2 | exact hG.2.2.2.2) (by omega) (by omega) (by omega) ?_
          refine VW.iinc (pc' := 64) d_Log_lastCommittedCell_61 rfl rfl rfl (by omega) ?_
          refine VW.goto (pc' := 30) d_Log_lastCommittedCell_64 rfl ?_
          refine VW.nrm ?_
          first | exact y0 c46 | exact y1 c46
  have l1 := loop (I g 0).toNat (I g 0).toNat 0 (filI I c 0 60 0) (by omega) (by rw [show filI I c 0 60 0 g 0 = I g 0 from if_neg (fun q => n3 q.1)]; have := hL.1; omega) (hL.fil n3 n4)
  clear loop n1 n2 n3 n4
  have clr : ∀ (l : Nat) (k : Int), k + l = 60 → 0 ≤ k → VW m_Log_lastCommittedCell false (rmv 1 21) (ex K P J (lgCom d c (I g 0).toNat 0 (filI I c 0 60 0)) (.inl (some (vI (lgLst (lgCom d c (I g 0).toNat 0 (filI I c 0 60 0)) d c t y q (I g 0).toNat))))) K P J (filI I c 0 k 0) 0 0 3 [(0, vR (some g)), (1, vI t), (2, vI y), (3, vI q), (4, vI k)] [] := by
    intro l
    induction l with
    | zero =>
      intro k hk h0
      have ek : k = 60 := by omega
      subst ek
      refine VW.iload (pc' := 5) d_Log_lastCommittedCell_3 rfl rfl ?_
      refine VW.aload_n (pc' := 6) d_Log_lastCommittedCell_5 rfl rfl ?_
      refine VW.gP (ci := 2) (T := T2) (N := 5) (k := 3) (k' := 3) (pc' := 9) d_Log_lastCommittedCell_6 rfl lk_Log_15 in2 rfl rfl rfl rfl (by first | exact hG.1 | exact hG.2.1.2 | exact hG.2.2.1.2 | exact hG.2.2.2.2) (by first | exact hG.2.1.1 | exact hG.2.2.1.1 | exact hG.2.2.2.1 | rfl) ?_
      refine VW.alen (pc' := 10) d_Log_lastCommittedCell_9 rfl (by first | exact hG.1 | exact hG.2.1.2 | exact hG.2.2.1.2 | exact hG.2.2.2.2) (by simp) (by omega) ?_
      refine VW.icmp_ge (tgt := 27) (pc' := 13) d_Log_lastCommittedCell_10 rfl rfl (fun c10 => ?_) (fun c10 => ?_)
      · refine VW.iconst (pc' := 28) d_Log_lastCommittedCell_27 rfl (by decide) ?_
        refine VW.istore (pc' := 30) d_Log_lastCommittedCell_28 rfl rfl ?_
        refine VW.nrm ?_
        exact l1
      · exfalso; omega
    | succ l ih =>
      intro k hk h0
      have nx := ih (k + 1) (by omega) (by omega)
      rw [← filI_step h0] at nx
      clear ih l1
      refine VW.iload (pc' := 5) d_Log_lastCommittedCell_3 rfl rfl ?_
      refine VW.aload_n (pc' := 6) d_Log_lastCommittedCell_5 rfl rfl ?_
      refine VW.gP (ci := 2) (T := T2) (N := 5) (k := 3) (k' := 3) (pc' := 9) d_Log_lastCommittedCell_6 rfl lk_Log_15 in2 rfl rfl rfl rfl (by first | exact hG.1 | exact hG.2.1.2 | exact hG.2.2.1.2 | exact hG.2.2.2.2) (by first | exact hG.2.1.1 | exact hG.2.2.1.1 | exact hG.2.2.2.1 | rfl) ?_
      refine VW.alen (pc' := 10) d_Log_lastCommittedCell_9 rfl (by first | exact hG.1 | exact hG.2.1.2 | exact hG.2.2.1.2 | exact hG.2.2.2.2) (by simp) (by omega) ?_
      refine VW.icmp_ge (tgt := 27) (pc' := 13) d_Log_lastCommittedCell_10 rfl rfl (fun c10 => ?_) (fun c10 => ?_)
      · exfalso; omega
      · refine VW.aload_n (pc' := 14) d_Log_lastCommittedCell_13 rfl rfl ?_
        refine VW.gP (ci := 2) (T := T2) (N := 5) (k := 3) (k' := 3) (pc' := 17) d_Log_lastCommittedCell_14 rfl lk_Log_15 in2 rfl rfl rfl rfl (by first | exact hG.1 | exact hG.2.1.2 | exact hG.2.2.1.2 | exact hG.2.2.2.2) (by first | exact hG.2.1.1 | exact hG.2.2.1.1 | exact hG.2.2.2.1 | rfl) ?_
        refine VW.iload (pc' := 19) d_Log_lastCommittedCell_17 rfl rfl ?_
        refine VW.iconst (pc' := 20) d_Log_lastCommittedCell_19 rfl (by decide) ?_
        refine VW.zast (pc' := 21) d_Log_lastCommittedCell_20 rfl (by first | exact hG.1 | exact hG.2.1.2 | exact hG.2.2.1.2 | exact hG.2.2.2.2) (by omega) (by omega) (by omega) ?_
        refine VW.iinc (pc' := 24) d_Log_lastCommittedCell_21 rfl rfl rfl (by omega) ?_
        refine VW.goto (pc' := 3) d_Log_lastCommittedCell_24 rfl ?_
        refine VW.nrm ?_
        exact nx
  have l2 := clr 60 0 (by omega) (by omega)
  rw [filI_0 (hi := 0) (Int.le_refl 0)] at l2
  clear clr l1
  refine VW.iconst (pc' := 1) d_Log_lastCommittedCell_0 rfl (by decide) ?_
  refine VW.istore (pc' := 3) d_Log_lastCommittedCell_1 rfl rfl ?_
  refine VW.nrm ?_
  exact l2
end
