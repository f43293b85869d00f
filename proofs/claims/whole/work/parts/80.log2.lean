section
variable {K : KT} {P : PT} {J I : IT}
theorem LgB.up {T : IT} {g d n m : Nat} {w v : Int} (h : LgB T g d n) (h1 : g ≠ m) (h2 : d ≠ m) : LgB (up2 T m w v) g d n := by
  unfold LgB
  rw [up2_o _ _ _ _ h1]
  exact ⟨h.1, fun k a b => by rw [up2_o _ _ _ _ h2, up2_o _ _ _ _ h2]; exact h.2 k a b⟩
theorem LgB.fil {T : IT} {g d n m : Nat} {lo hi v : Int} (h : LgB T g d n) (h1 : g ≠ m) (h2 : d ≠ m) : LgB (filI T m lo hi v) g d n := by
  have e : ∀ (o : Nat) (z : Int), o ≠ m → filI T m lo hi v o z = T o z := fun o z ne => if_neg (fun q => ne q.1)
  unfold LgB
  rw [e g 0 h1]
  exact ⟨h.1, fun k a b => by rw [e d _ h2, e d _ h2]; exact h.2 k a b⟩
theorem LgW.ne {g d n c m : Nat} (h : LgW K P g d n c m) : (g ≠ m ∧ d ≠ m) ∧ (g ≠ c ∧ d ≠ c) := by
  refine ⟨⟨fun z => ?_, fun z => ?_⟩, fun z => ?_, fun z => ?_⟩
  · have := h.1.symm.trans (z ▸ h.2.2.2.2); cases this
  · have := h.2.1.2.symm.trans (z ▸ h.2.2.2.2); cases this
  · have := h.1.symm.trans (z ▸ h.2.2.1.2); cases this
  · have := h.2.1.2.symm.trans (z ▸ h.2.2.1.2); cases this
/-- which transactions have a WRITE and no end, after l records from k on -/
noncomputable def lgOpn (d m : Nat) : Nat → Nat → IT → IT
  | 0, _, T => T
  | l + 1, k, T => if T d ((k : Int) * 8) = 0 then lgOpn d m l (k + 1) (up2 T m (T d ((k : Int) * 8 + 1)) 1) else if T d ((k : Int) * 8) = 1 ∨ T d ((k : Int) * 8) = 3 then lgOpn d m l (k + 1) (up2 T m (T d ((k : Int) * 8 + 1)) 0) else lgOpn d m l (k + 1) T
/-- which have committed -/
noncomputable def lgCom (d c : Nat) : Nat → Nat → IT → IT
  | 0, _, T => T
  | l + 1, k, T => if T d ((k : Int) * 8) = 1 then lgCom d c l (k + 1) (up2 T c (T d ((k : Int) * 8 + 1)) 1) else lgCom d c l (k + 1) T
/-- the cell of the last committed WRITE of a row, of the first k records -/
noncomputable def lgLst (T : IT) (d c : Nat) (t y q : Int) : Nat → Int
  | 0 => -2147483648
  | k + 1 => if T d ((k : Int) * 8) = 0 ∧ T d ((k : Int) * 8 + 2) = t ∧ T d ((k : Int) * 8 + 3) = y ∧ T c (T d ((k : Int) * 8 + 1)) ≠ 0 then T d ((k : Int) * 8 + 4 + q) else lgLst T d c t y q k
theorem sp_Log_markLeftOpen {g d n c m : Nat} (hG : LgW K P g d n c m) (hL : LgB I g d n)  : Sp m_Log_markLeftOpen false (rmv 1 21) (ex K P J (lgOpn d m (I g 0).toNat 0 (filI I m 0 60 0)) (.inl none)) K P J I [vR (some g)] := by
  refine Sp.ofV (by decide) (Or.inr rfl) rfl ?_
  obtain ⟨⟨n1, n2⟩, n3, n4⟩ := hG.ne
  have loop : ∀ (l k : Nat) (T : IT), k + l = T g 0 → LgB T g d n → VW m_Log_markLeftOpen false (rmv 1 21) (ex K P J (lgOpn d m l k T) (.inl none)) K P J T 0 0 26 [(0, vR (some g)), (1, vI (k : Int))] [] := by
    intro l
    induction l with
    | zero =>
      intro k T hk hL
      have hl := hL.1
      show VW m_Log_markLeftOpen false (rmv 1 21) (ex K P J T (.inl none)) K P J T 0 0 26 [(0, vR (some g)), (1, vI (k : Int))] []
      clear n1 n2 n3 n4
      refine VW.iload_n (pc' := 27) d_Log_markLeftOpen_26 rfl rfl ?_
      refine VW.aload_n (pc' := 28) d_Log_markLeftOpen_27 rfl rfl ?_
      refine VW.gI (ci := 2) (T := T2) (N := 5) (k := 0) (k' := 0) (pc' := 31) d_Log_markLeftOpen_28 rfl lk_Log_22 in2 rfl rfl rfl rfl (by first | exact hG.1 | exact hG.2.1.2 | exact hG.2.2.1.2 | exact hG.2.2.2.2) (by first | exact hG.2.1.1 | exact hG.2.2.1.1 | exact hG.2.2.2.1 | rfl) ?_
      refine VW.icmp_ge (tgt := 85) (pc' := 34) d_Log_markLeftOpen_31 rfl rfl (fun c31 => ?_) (fun c31 => ?_)
      · exact VW.vret d_Log_markLeftOpen_85 rfl (Nat.zero_le _) (Nat.zero_le _) ex_rf
      · exfalso; omega
    | succ l ih =>
      intro k T hk hL
      have hl := hL.1
      have hw := hL.2 k (by omega) (by omega)
      have ec : ((k + 1 : Nat) : Int) = (k : Int) + 1 := by omega
      have nx := ih (k + 1)
      rw [ec] at nx
      have u : ∀ w v : Int, up2 T m w v g 0 = T g 0 := fun w v => up2_o _ _ _ _ n1
      have y0 : T d ((k : Int) * 8) = 0 → VW m_Log_markLeftOpen false (rmv 1 21) (ex K P J (lgOpn d m (l + 1) k T) (.inl none)) K P J (up2 T m (T d ((k : Int) * 8 + 1)) 1) 0 0 26 [(0, vR (some g)), (1, vI ((k : Int) + 1))] [] := fun z => by
        have e : lgOpn d m (l + 1) k T = _ := if_pos z
        rw [e]
        exact nx _ (by rw [u]; omega) (hL.up n1 n2)
      have y1 : T d ((k : Int) * 8) ≠ 0 → (T d ((k : Int) * 8) = 1 ∨ T d ((k : Int) * 8) = 3) → VW m_Log_markLeftOpen false (rmv 1 21) (ex K P J (lgOpn d m (l + 1) k T) (.inl none)) K P J (up2 T m (T d ((k : Int) * 8 + 1)) 0) 0 0 26 [(0, vR (some g)), (1, vI ((k : Int) + 1))] [] := fun z y => by
        have e : lgOpn d m (l + 1) k T = _ := (if_neg z).trans (if_pos y)
        rw [e]
        exact nx _ (by rw [u]; omega) (hL.up n1 n2)
      have y2 : T d ((k : Int) * 8) ≠ 0 → T d ((k : Int) * 8) ≠ 1 → T d ((k : Int) * 8) ≠ 3 → VW m_Log_markLeftOpen false (rmv 1 21) (ex K P J (lgOpn d m (l + 1) k T) (.inl none)) K P J T 0 0 26 [(0, vR (some g)), (1, vI ((k : Int) + 1))] [] := fun z y w => by
        have e : lgOpn d m (l + 1) k T = _ := (if_neg z).trans (if_neg (fun h => h.elim y w))
        rw [e]
        exact nx _ (by omega) hL
      clear ih nx hL u n1 n2 n3 n4
      refine VW.iload_n (pc' := 27) d_Log_markLeftOpen_26 rfl rfl ?_
      refine VW.aload_n (pc' := 28) d_Log_markLeftOpen_27 rfl rfl ?_
      refine VW.gI (ci := 2) (T := T2) (N := 5) (k := 0) (k' := 0) (pc' := 31) d_Log_markLeftOpen_28 rfl lk_Log_22 in2 rfl rfl rfl rfl (by first | exact hG.1 | exact hG.2.1.2 | exact hG.2.2.1.2 | exact hG.2.2.2.2) (by first | exact hG.2.1.1 | exact hG.2.2.1.1 | exact hG.2.2.2.1 | rfl) ?_
      refine VW.icmp_ge (tgt := 85) (pc' := 34) d_Log_markLeftOpen_31 rfl rfl (fun c31 => ?_) (fun c31 => ?_)
      · exfalso; omega
      · refine VW.aload_n (pc' := 35) d_Log_markLeftOpen_34 rfl rfl ?_
        refine VW.iload_n (pc' := 36) d_Log_markLeftOpen_35 rfl rfl ?_
        refine VW.cV (ci := 2) (T := T2) (N := 5) (pc' := 39) d_Log_markLeftOpen_36 rfl mv_Log_kindOf lk_Log_63 rfl (by first | exact hG.1 | exact hG.2.1.2 | exact hG.2.2.1.2 | exact hG.2.2.2.2) rfl rfl rfl (Nat.le_refl _) (Nat.le_refl _) (sp_Log_kindOf hG (by omega)) rfl rfl ?_
        refine VW.istore_n (pc' := 40) d_Log_markLeftOpen_39 rfl rfl ?_
        refine VW.iload_n (pc' := 41) d_Log_markLeftOpen_40 rfl rfl ?_
        refine VW.if_ne (tgt := 58) (pc' := 44) d_Log_markLeftOpen_41 rfl rfl (fun c41 => ?_) (fun c41 => ?_)
        · try have e41 := bIn c41
          refine VW.iload_n (pc' := 59) d_Log_markLeftOpen_58 rfl rfl ?_
          refine VW.iconst (pc' := 60) d_Log_markLeftOpen_59 rfl (by decide) ?_
          refine VW.icmp_eq (tgt := 68) (pc' := 63) d_Log_markLeftOpen_60 rfl rfl (fun c60 => ?_) (fun c60 => ?_)
          · refine VW.aload_n (pc' := 69) d_Log_markLeftOpen_68 rfl rfl ?_
            refine VW.gP (ci := 2) (T := T2) (N := 5) (k := 4) (k' := 4) (pc' := 72) d_Log_markLeftOpen_69 rfl lk_Log_19 in2 rfl rfl rfl rfl (by first | exact hG.1 | exact hG.2.1.2 | exact hG.2.2.1.2 | exact hG.2.2.2.2) (by first | exact hG.2.1.1 | exact hG.2.2.1.1 | exact hG.2.2.2.1 | rfl) ?_
            refine VW.aload_n (pc' := 73) d_Log_markLeftOpen_72 rfl rfl ?_
            refine VW.iload_n (pc' := 74) d_Log_markLeftOpen_73 rfl rfl ?_
            refine VW.cV (ci := 2) (T := T2) (N := 5) (pc' := 77) d_Log_markLeftOpen_74 rfl mv_Log_writerOf lk_Log_66 rfl (by first | exact hG.1 | exact hG.2.1.2 | exact hG.2.2.1.2 | exact hG.2.2.2.2) rfl rfl rfl (Nat.le_refl _) (Nat.le_refl _) (sp_Log_writerOf hG (by omega)) rfl rfl ?_
            refine VW.iconst (pc' := 78) d_Log_markLeftOpen_77 rfl (by decide) ?_
            refine VW.zast (pc' := 79) d_Log_markLeftOpen_78 rfl (by first | exact hG.1 | exact hG.2.1.2 | exact hG.2.2.1.2 | exact hG.2.2.2.2) (by omega) (by omega) (by omega) ?_
            refine VW.iinc (pc' := 82) d_Log_markLeftOpen_79 rfl rfl rfl (by omega) ?_
            refine VW.goto (pc' := 26) d_Log_markLeftOpen_82 rfl ?_
            refine VW.pick [0, 1] ?_
            first | exact y0 c41 | exact y1 c41 (Or.inl c60) | exact y1 c41 (Or.inr c65) | exact y2 c41 c60 c65
          · refine VW.iload_n (pc' := 64) d_Log_markLeftOpen_63 rfl rfl ?_
            refine VW.iconst (pc' := 65) d_Log_markLeftOpen_64 rfl (by decide) ?_
            refine VW.icmp_ne (tgt := 79) (pc' := 68) d_Log_markLeftOpen_65 rfl rfl (fun c65 => ?_) (fun c65 => ?_)
            · refine VW.iinc (pc' := 82) d_Log_markLeftOpen_79 rfl rfl rfl (by omega) ?_
              refine VW.goto (pc' := 26) d_Log_markLeftOpen_82 rfl ?_
              refine VW.pick [0, 1] ?_
              first | exact y0 c41 | exact y1 c41 (Or.inl c60) | exact y1 c41 (Or.inr c65) | exact y2 c41 c60 c65
            · refine VW.aload_n (pc' := 69) d_Log_markLeftOpen_68 rfl rfl ?_
              refine VW.gP (ci := 2) (T := T2) (N := 5) (k := 4) (k' := 4) (pc' := 72) d_Log_markLeftOpen_69 rfl lk_Log_19 in2 rfl rfl rfl rfl (by first | exact hG.1 | exact hG.2.1.2 | exact hG.2.2.1.2 | exact hG.2.2.2.2) (by first | exact hG.2.1.1 | exact hG.2.2.1.1 | exact hG.2.2.2.1 | rfl) ?_
              refine VW.aload_n (pc' := 73) d_Log_markLeftOpen_72 rfl rfl ?_
              refine VW.iload_n (pc' := 74) d_Log_markLeftOpen_73 rfl rfl ?_
              refine VW.cV (ci := 2) (T := T2) (N := 5) (pc' := 77) d_Log_markLeftOpen_74 rfl mv_Log_writerOf lk_Log_66 rfl (by first | exact hG.1 | exact hG.2.1.2 | exact hG.2.2.1.2 | exact hG.2.2.2.2) rfl rfl rfl (Nat.le_refl _) (Nat.le_refl _) (sp_Log_writerOf hG (by omega)) rfl rfl ?_
              refine VW.iconst (pc' := 78) d_Log_markLeftOpen_77 rfl (by decide) ?_
              refine VW.zast (pc' := 79) d_Log_markLeftOpen_78 rfl (by first | exact hG.1 | exact hG.2.1.2 | exact hG.2.2.1.2 | exact hG.2.2.2.2) (by omega) (by omega) (by omega) ?_
              refine VW.iinc (pc' := 82) d_Log_markLeftOpen_79 rfl rfl rfl (by omega) ?_
              refine VW.goto (pc' := 26) d_Log_markLeftOpen_82 rfl ?_
              refine VW.pick [0, 1] ?_
              first | exact y0 c41 | exact y1 c41 (Or.inl c60) | exact y1 c41 (Or.inr c65) | exact y2 c41 c60 c65
        · try have e41 := bIe c41
          refine VW.aload_n (pc' := 45) d_Log_markLeftOpen_44 rfl rfl ?_
          refine VW.gP (ci := 2) (T := T2) (N := 5) (k := 4) (k' := 4) (pc' := 48) d_Log_markLeftOpen_45 rfl lk_Log_19 in2 rfl rfl rfl rfl (by first | exact hG.1 | exact hG.2.1.2 | exact hG.2.2.1.2 | exact hG.2.2.2.2) (by first | exact hG.2.1.1 | exact hG.2.2.1.1 | exact hG.2.2.2.1 | rfl) ?_
          refine VW.aload_n (pc' := 49) d_Log_markLeftOpen_48 rfl rfl ?_
          refine VW.iload_n (pc' := 50) d_Log_markLeftOpen_49 rfl rfl ?_
          refine VW.cV (ci := 2) (T := T2) (N := 5) (pc' := 53) d_Log_markLeftOpen_50 rfl mv_Log_writerOf lk_Log_66 rfl (by first | exact hG.1 | exact hG.2.1.2 | exact hG.2.2.1.2 | exact hG.2.2.2.2) rfl rfl rfl (Nat.le_refl _) (Nat.le_refl _) (sp_Log_writerOf hG (by omega)) rfl rfl ?_
          refine VW.iconst (pc' := 54) d_Log_markLeftOpen_53 rfl (by decide) ?_
          refine VW.zast (pc' := 55) d_Log_markLeftOpen_54 rfl (by first | exact hG.1 | exact hG.2.1.2 | exact hG.2.2.1.2 | exact hG.2.2.2.2) (by omega) (by omega) (by omega) ?_
          refine VW.goto (pc' := 79) d_Log_markLeftOpen_55 rfl ?_
          refine VW.iinc (pc' := 82) d_Log_markLeftOpen_79 rfl rfl rfl (by omega) ?_
          refine VW.goto (pc' := 26) d_Log_markLeftOpen_82 rfl ?_
          refine VW.pick [0, 1] ?_
          first | exact y0 c41 | exact y1 c41 (Or.inl c60) | exact y1 c41 (Or.inr c65) | exact y2 c41 c60 c65
  have l1 := loop (I g 0).toNat 0 (filI I m 0 60 0) (by rw [show filI I m 0 60 0 g 0 = I g 0 from if_neg (fun q => n1 q.1)]; have := hL.1; omega) (hL.fil n1 n2)
  clear loop n1 n2 n3 n4
  have clr : ∀ (l : Nat) (k : Int), k + l = 60 → 0 ≤ k → VW m_Log_markLeftOpen false (rmv 1 21) (ex K P J (lgOpn d m (I g 0).toNat 0 (filI I m 0 60 0)) (.inl none)) K P J (filI I m 0 k 0) 0 0 2 [(0, vR (some g)), (1, vI k)] [] := by
    intro l
    induction l with
    | zero =>
      intro k hk h0
      have ek : k = 60 := by omega
      subst ek
      refine VW.iload_n (pc' := 3) d_Log_markLeftOpen_2 rfl rfl ?_
      refine VW.aload_n (pc' := 4) d_Log_markLeftOpen_3 rfl rfl ?_
      refine VW.gP (ci := 2) (T := T2) (N := 5) (k := 4) (k' := 4) (pc' := 7) d_Log_markLeftOpen_4 rfl lk_Log_19 in2 rfl rfl rfl rfl (by first | exact hG.1 | exact hG.2.1.2 | exact hG.2.2.1.2 | exact hG.2.2.2.2) (by first | exact hG.2.1.1 | exact hG.2.2.1.1 | exact hG.2.2.2.1 | rfl) ?_
      refine VW.alen (pc' := 8) d_Log_markLeftOpen_7 rfl (by first | exact hG.1 | exact hG.2.1.2 | exact hG.2.2.1.2 | exact hG.2.2.2.2) (by simp) (by omega) ?_
      refine VW.icmp_ge (tgt := 24) (pc' := 11) d_Log_markLeftOpen_8 rfl rfl (fun c8 => ?_) (fun c8 => ?_)
      · refine VW.iconst (pc' := 25) d_Log_markLeftOpen_24 rfl (by decide) ?_
        refine VW.istore_n (pc' := 26) d_Log_markLeftOpen_25 rfl rfl ?_
        refine VW.nrm ?_
        exact l1
      · exfalso; omega
    | succ l ih =>
      intro k hk h0
      have nx := ih (k + 1) (by omega) (by omega)
      rw [← filI_step h0] at nx
      clear ih l1
      refine VW.iload_n (pc' := 3) d_Log_markLeftOpen_2 rfl rfl ?_
      refine VW.aload_n (pc' := 4) d_Log_markLeftOpen_3 rfl rfl ?_
      refine VW.gP (ci := 2) (T := T2) (N := 5) (k := 4) (k' := 4) (pc' := 7) d_Log_markLeftOpen_4 rfl lk_Log_19 in2 rfl rfl rfl rfl (by first | exact hG.1 | exact hG.2.1.2 | exact hG.2.2.1.2 | exact hG.2.2.2.2) (by first | exact hG.2.1.1 | exact hG.2.2.1.1 | exact hG.2.2.2.1 | rfl) ?_
      refine VW.alen (pc' := 8) d_Log_markLeftOpen_7 rfl (by first | exact hG.1 | exact hG.2.1.2 | exact hG.2.2.1.2 | exact hG.2.2.2.2) (by simp) (by omega) ?_
      refine VW.icmp_ge (tgt := 24) (pc' := 11) d_Log_markLeftOpen_8 rfl rfl (fun c8 => ?_) (fun c8 => ?_)
      · exfalso; omega
      · refine VW.aload_n (pc' := 12) d_Log_markLeftOpen_11 rfl rfl ?_
        refine VW.gP (ci := 2) (T := T2) (N := 5) (k := 4) (k' := 4) (pc' := 15) d_Log_markLeftOpen_12 rfl lk_Log_19 in2 rfl rfl rfl rfl (by first | exact hG.1 | exact hG.2.1.2 | exact hG.2.2.1.2 | exact hG.2.2.2.2) (by first | exact hG.2.1.1 | exact hG.2.2.1.1 | exact hG.2.2.2.1 | rfl) ?_
        refine VW.iload_n (pc' := 16) d_Log_markLeftOpen_15 rfl rfl ?_
        refine VW.iconst (pc' := 17) d_Log_markLeftOpen_16 rfl (by decide) ?_
        refine VW.zast (pc' := 18) d_Log_markLeftOpen_17 rfl (by first | exact hG.1 | exact hG.2.1.2 | exact hG.2.2.1.2 | exact hG.2.2.2.2) (by omega) (by omega) (by omega) ?_
        refine VW.iinc (pc' := 21) d_Log_markLeftOpen_18 rfl rfl rfl (by omega) ?_
        refine VW.goto (pc' := 2) d_Log_markLeftOpen_21 rfl ?_
        refine VW.nrm ?_
        exact nx
  have l2 := clr 60 0 (by omega) (by omega)
  rw [filI_0 (hi := 0) (Int.le_refl 0)] at l2
  clear clr l1
  refine VW.iconst (pc' := 1) d_Log_markLeftOpen_0 rfl (by decide) ?_
  refine VW.istore_n (pc' := 2) d_Log_markLeftOpen_1 rfl rfl ?_
  refine VW.nrm ?_
  exact l2
end
