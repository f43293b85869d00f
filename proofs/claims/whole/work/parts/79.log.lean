section
variable {K : KT} {P : PT} {J I : IT}
/-- the log g: its data are in d (n places), the two lists of transactions in c and m -/
def LgW (K : KT) (P : PT) (g d n c m : Nat) : Prop := K g = some (2, 0) ∧ (P g 2 = some d ∧ K d = some (100, n)) ∧ (P g 3 = some c ∧ K c = some (101, 60)) ∧ (P g 4 = some m ∧ K m = some (101, 60))
/-- its length fits; the writers are transactions -/
def LgB (I : IT) (g d n : Nat) : Prop := (0 ≤ I g 0 ∧ I g 0 * 8 ≤ n ∧ n ≤ 524288) ∧ ∀ k, 0 ≤ k → k < I g 0 → (I d (k * 8) = 0 ∨ I d (k * 8) = 1 ∨ I d (k * 8) = 3) → 0 ≤ I d (k * 8 + 1) ∧ I d (k * 8 + 1) < 60
noncomputable def lgUnd (I : IT) (d : Nat) (i : Int) : Nat → Int := cntI (fun k => I d (k * 8) = 2 ∧ I d (k * 8 + 1) = i)
theorem sp_Log_kindOf {g d n c m : Nat} {p : Int} (hG : LgW K P g d n c m) (hp : 0 ≤ p ∧ p * 8 + 8 ≤ n ∧ n ≤ 524288) : Sp m_Log_kindOf false (rmv 0 0) (ex K P J I (.inl (some (vI (I d (p * 8)))))) K P J I [vR (some g), vI p] := by
  refine Sp.ofV (by decide) (Or.inr rfl) rfl ?_
  refine VW.aload_n (pc' := 1) d_Log_kindOf_0 rfl rfl ?_
  refine VW.gP (ci := 2) (T := T2) (N := 5) (k := 2) (k' := 2) (pc' := 4) d_Log_kindOf_1 rfl lk_Log_11 in2 rfl rfl rfl rfl (by first | exact hG.1 | exact hG.2.1.2 | exact hG.2.2.1.2 | exact hG.2.2.2.2) (by first | exact hG.2.1.1 | exact hG.2.2.1.1 | exact hG.2.2.2.1 | rfl) ?_
  refine VW.iload_n (pc' := 5) d_Log_kindOf_4 rfl rfl ?_
  refine VW.bipush (pc' := 7) d_Log_kindOf_5 rfl (by decide) ?_
  refine VW.imul (pc' := 8) d_Log_kindOf_7 rfl (by omega) ?_
  refine VW.ild (pc' := 9) d_Log_kindOf_8 rfl (by first | exact hG.1 | exact hG.2.1.2 | exact hG.2.2.1.2 | exact hG.2.2.2.2) (by omega) (by omega) (by first | exact hG.2.1.1 | exact hG.2.2.1.1 | exact hG.2.2.2.1 | rfl) ?_
  exact VW.iret d_Log_kindOf_9 rfl rfl (Nat.zero_le _) (Nat.zero_le _) ex_rf
theorem sp_Log_writerOf {g d n c m : Nat} {p : Int} (hG : LgW K P g d n c m) (hp : 0 ≤ p ∧ p * 8 + 8 ≤ n ∧ n ≤ 524288) : Sp m_Log_writerOf false (rmv 0 0) (ex K P J I (.inl (some (vI (I d (p * 8 + 1)))))) K P J I [vR (some g), vI p] := by
  refine Sp.ofV (by decide) (Or.inr rfl) rfl ?_
  refine VW.aload_n (pc' := 1) d_Log_writerOf_0 rfl rfl ?_
  refine VW.gP (ci := 2) (T := T2) (N := 5) (k := 2) (k' := 2) (pc' := 4) d_Log_writerOf_1 rfl lk_Log_11 in2 rfl rfl rfl rfl (by first | exact hG.1 | exact hG.2.1.2 | exact hG.2.2.1.2 | exact hG.2.2.2.2) (by first | exact hG.2.1.1 | exact hG.2.2.1.1 | exact hG.2.2.2.1 | rfl) ?_
  refine VW.iload_n (pc' := 5) d_Log_writerOf_4 rfl rfl ?_
  refine VW.bipush (pc' := 7) d_Log_writerOf_5 rfl (by decide) ?_
  refine VW.imul (pc' := 8) d_Log_writerOf_7 rfl (by omega) ?_
  refine VW.iconst (pc' := 9) d_Log_writerOf_8 rfl (by decide) ?_
  refine VW.iadd (pc' := 10) d_Log_writerOf_9 rfl (by omega) ?_
  refine VW.ild (pc' := 11) d_Log_writerOf_10 rfl (by first | exact hG.1 | exact hG.2.1.2 | exact hG.2.2.1.2 | exact hG.2.2.2.2) (by omega) (by omega) (by first | exact hG.2.1.1 | exact hG.2.2.1.1 | exact hG.2.2.2.1 | rfl) ?_
  exact VW.iret d_Log_writerOf_11 rfl rfl (Nat.zero_le _) (Nat.zero_le _) ex_rf
theorem sp_Log_tableOf {g d n c m : Nat} {p : Int} (hG : LgW K P g d n c m) (hp : 0 ≤ p ∧ p * 8 + 8 ≤ n ∧ n ≤ 524288) : Sp m_Log_tableOf false (rmv 0 0) (ex K P J I (.inl (some (vI (I d (p * 8 + 2)))))) K P J I [vR (some g), vI p] := by
  refine Sp.ofV (by decide) (Or.inr rfl) rfl ?_
  refine VW.aload_n (pc' := 1) d_Log_tableOf_0 rfl rfl ?_
  refine VW.gP (ci := 2) (T := T2) (N := 5) (k := 2) (k' := 2) (pc' := 4) d_Log_tableOf_1 rfl lk_Log_11 in2 rfl rfl rfl rfl (by first | exact hG.1 | exact hG.2.1.2 | exact hG.2.2.1.2 | exact hG.2.2.2.2) (by first | exact hG.2.1.1 | exact hG.2.2.1.1 | exact hG.2.2.2.1 | rfl) ?_
  refine VW.iload_n (pc' := 5) d_Log_tableOf_4 rfl rfl ?_
  refine VW.bipush (pc' := 7) d_Log_tableOf_5 rfl (by decide) ?_
  refine VW.imul (pc' := 8) d_Log_tableOf_7 rfl (by omega) ?_
  refine VW.iconst (pc' := 9) d_Log_tableOf_8 rfl (by decide) ?_
  refine VW.iadd (pc' := 10) d_Log_tableOf_9 rfl (by omega) ?_
  refine VW.ild (pc' := 11) d_Log_tableOf_10 rfl (by first | exact hG.1 | exact hG.2.1.2 | exact hG.2.2.1.2 | exact hG.2.2.2.2) (by omega) (by omega) (by first | exact hG.2.1.1 | exact hG.2.2.1.1 | exact hG.2.2.2.1 | rfl) ?_
  exact VW.iret d_Log_tableOf_11 rfl rfl (Nat.zero_le _) (Nat.zero_le _) ex_rf
theorem sp_Log_keyOf {g d n c m : Nat} {p : Int} (hG : LgW K P g d n c m) (hp : 0 ≤ p ∧ p * 8 + 8 ≤ n ∧ n ≤ 524288) : Sp m_Log_keyOf false (rmv 0 0) (ex K P J I (.inl (some (vI (I d (p * 8 + 3)))))) K P J I [vR (some g), vI p] := by
  refine Sp.ofV (by decide) (Or.inr rfl) rfl ?_
  refine VW.aload_n (pc' := 1) d_Log_keyOf_0 rfl rfl ?_
  refine VW.gP (ci := 2) (T := T2) (N := 5) (k := 2) (k' := 2) (pc' := 4) d_Log_keyOf_1 rfl lk_Log_11 in2 rfl rfl rfl rfl (by first | exact hG.1 | exact hG.2.1.2 | exact hG.2.2.1.2 | exact hG.2.2.2.2) (by first | exact hG.2.1.1 | exact hG.2.2.1.1 | exact hG.2.2.2.1 | rfl) ?_
  refine VW.iload_n (pc' := 5) d_Log_keyOf_4 rfl rfl ?_
  refine VW.bipush (pc' := 7) d_Log_keyOf_5 rfl (by decide) ?_
  refine VW.imul (pc' := 8) d_Log_keyOf_7 rfl (by omega) ?_
  refine VW.iconst (pc' := 9) d_Log_keyOf_8 rfl (by decide) ?_
  refine VW.iadd (pc' := 10) d_Log_keyOf_9 rfl (by omega) ?_
  refine VW.ild (pc' := 11) d_Log_keyOf_10 rfl (by first | exact hG.1 | exact hG.2.1.2 | exact hG.2.2.1.2 | exact hG.2.2.2.2) (by omega) (by omega) (by first | exact hG.2.1.1 | exact hG.2.2.1.1 | exact hG.2.2.2.1 | rfl) ?_
  exact VW.iret d_Log_keyOf_11 rfl rfl (Nat.zero_le _) (Nat.zero_le _) ex_rf
theorem sp_Log_holds {g d n c m : Nat} {p : Int} (hG : LgW K P g d n c m) (hL : LgB I g d n)  : Sp m_Log_holds false (rmv 0 0) (ex K P J I (.inl (some (vI (bI (0 ≤ p ∧ p < I g 0)))))) K P J I [vR (some g), vI p] := by
  refine Sp.ofV (by decide) (Or.inr rfl) rfl ?_
  refine VW.iload_n (pc' := 1) d_Log_holds_0 rfl rfl ?_
  refine VW.if_lt (tgt := 16) (pc' := 4) d_Log_holds_1 rfl rfl (fun c1 => ?_) (fun c1 => ?_)
  · refine VW.iconst (pc' := 17) d_Log_holds_16 rfl (by decide) ?_
    exact VW.iret d_Log_holds_17 rfl rfl (Nat.zero_le _) (Nat.zero_le _) (by first | (rw [bI1 (by omega)]; exact ex_rf) | (rw [bI0 (by omega)]; exact ex_rf))
  · refine VW.iload_n (pc' := 5) d_Log_holds_4 rfl rfl ?_
    refine VW.aload_n (pc' := 6) d_Log_holds_5 rfl rfl ?_
    refine VW.gI (ci := 2) (T := T2) (N := 5) (k := 0) (k' := 0) (pc' := 9) d_Log_holds_6 rfl lk_Log_22 in2 rfl rfl rfl rfl (by first | exact hG.1 | exact hG.2.1.2 | exact hG.2.2.1.2 | exact hG.2.2.2.2) (by first | exact hG.2.1.1 | exact hG.2.2.1.1 | exact hG.2.2.2.1 | rfl) ?_
    refine VW.icmp_ge (tgt := 16) (pc' := 12) d_Log_holds_9 rfl rfl (fun c9 => ?_) (fun c9 => ?_)
    · refine VW.iconst (pc' := 17) d_Log_holds_16 rfl (by decide) ?_
      exact VW.iret d_Log_holds_17 rfl rfl (Nat.zero_le _) (Nat.zero_le _) (by first | (rw [bI1 (by omega)]; exact ex_rf) | (rw [bI0 (by omega)]; exact ex_rf))
    · refine VW.iconst (pc' := 13) d_Log_holds_12 rfl (by decide) ?_
      refine VW.goto (pc' := 17) d_Log_holds_13 rfl ?_
      exact VW.iret d_Log_holds_17 rfl rfl (Nat.zero_le _) (Nat.zero_le _) (by first | (rw [bI1 (by omega)]; exact ex_rf) | (rw [bI0 (by omega)]; exact ex_rf))
theorem sp_Log_flush {g d n c m : Nat} (hG : LgW K P g d n c m) : Sp m_Log_flush false (rmv 0 0) (ex K P J (up2 I g 1 (I g 0)) (.inl none)) K P J I [vR (some g)] := by
  refine Sp.ofV (by decide) (Or.inr rfl) rfl ?_
  refine VW.aload_n (pc' := 1) d_Log_flush_0 rfl rfl ?_
  refine VW.aload_n (pc' := 2) d_Log_flush_1 rfl rfl ?_
  refine VW.gI (ci := 2) (T := T2) (N := 5) (k := 0) (k' := 0) (pc' := 5) d_Log_flush_2 rfl lk_Log_22 in2 rfl rfl rfl rfl (by first | exact hG.1 | exact hG.2.1.2 | exact hG.2.2.1.2 | exact hG.2.2.2.2) (by first | exact hG.2.1.1 | exact hG.2.2.1.1 | exact hG.2.2.2.1 | rfl) ?_
  refine VW.pI (ci := 2) (T := T2) (N := 5) (k := 1) (k' := 1) (ty := ty2) (pc' := 8) d_Log_flush_5 rfl lk_Log_60 in2 tk2 nm2 rfl rfl rfl rfl rfl rfl (by first | exact hG.1 | exact hG.2.1.2 | exact hG.2.2.1.2 | exact hG.2.2.2.2) ?_
  exact VW.vret d_Log_flush_8 rfl (Nat.zero_le _) (Nat.zero_le _) ex_rf
theorem sp_Log_cut {g d n c m : Nat} {p : Int} (hG : LgW K P g d n c m) : Sp m_Log_cut false (rmv 0 0) (ex K P J (up2 I g 0 p) (.inl none)) K P J I [vR (some g), vI p] := by
  refine Sp.ofV (by decide) (Or.inr rfl) rfl ?_
  refine VW.aload_n (pc' := 1) d_Log_cut_0 rfl rfl ?_
  refine VW.iload_n (pc' := 2) d_Log_cut_1 rfl rfl ?_
  refine VW.pI (ci := 2) (T := T2) (N := 5) (k := 0) (k' := 0) (ty := ty2) (pc' := 5) d_Log_cut_2 rfl lk_Log_22 in2 tk2 nm2 rfl rfl rfl rfl rfl rfl (by first | exact hG.1 | exact hG.2.1.2 | exact hG.2.2.1.2 | exact hG.2.2.2.2) ?_
  exact VW.vret d_Log_cut_5 rfl (Nat.zero_le _) (Nat.zero_le _) ex_rf
theorem sp_Log_countUndone {g d n c m : Nat} {i : Int} (hG : LgW K P g d n c m) (hL : LgB I g d n)  : Sp m_Log_countUndone false (rmv 1 21) (ex K P J I (.inl (some (vI (lgUnd I d i (I g 0).toNat))))) K P J I [vR (some g), vI i] := by
  refine Sp.ofV (by decide) (Or.inr rfl) rfl ?_
  have hl := hL.1
  have loop : ∀ (l m : Nat), m + l = (I g 0).toNat → VW m_Log_countUndone false (rmv 1 21) (ex K P J I (.inl (some (vI (lgUnd I d i (I g 0).toNat))))) K P J I 0 0 4 [(0, vR (some g)), (1, vI i), (2, vI (lgUnd I d i m)), (3, vI (m : Int))] [] := by
    intro l
    induction l with
    | zero =>
      intro m hm
      have em : m = (I g 0).toNat := by omega
      rw [← em]
      refine VW.iload_n (pc' := 5) d_Log_countUndone_4 rfl rfl ?_
      refine VW.aload_n (pc' := 6) d_Log_countUndone_5 rfl rfl ?_
      refine VW.gI (ci := 2) (T := T2) (N := 5) (k := 0) (k' := 0) (pc' := 9) d_Log_countUndone_6 rfl lk_Log_22 in2 rfl rfl rfl rfl (by first | exact hG.1 | exact hG.2.1.2 | exact hG.2.2.1.2 | exact hG.2.2.2.2) (by first | exact hG.2.1.1 | exact hG.2.2.1.1 | exact hG.2.2.2.1 | rfl) ?_
      refine VW.icmp_ge (tgt := 39) (pc' := 12) d_Log_countUndone_9 rfl rfl (fun c9 => ?_) (fun c9 => ?_)
      · refine VW.iload_n (pc' := 40) d_Log_countUndone_39 rfl rfl ?_
        exact VW.iret d_Log_countUndone_40 rfl rfl (Nat.zero_le _) (Nat.zero_le _) ex_rf
      · exfalso; omega
    | succ l ih =>
      intro m hm
      have nx := ih (m + 1) (by omega)
      have em : ((m + 1 : Nat) : Int) = (m : Int) + 1 := by omega
      rw [em] at nx
      have rg : 0 ≤ lgUnd I d i m ∧ lgUnd I d i m ≤ m := cntI_rg _ m
      have y : I d (m * 8) = 2 → I d (m * 8 + 1) = i → lgUnd I d i m + 1 = lgUnd I d i (m + 1) := fun z w => cntI_yes (g := fun k : Int => I d (k * 8) = 2 ∧ I d (k * 8 + 1) = i) (n := m) ⟨z, w⟩
      have n0 : ¬ (I d (m * 8) = 2 ∧ I d (m * 8 + 1) = i) → lgUnd I d i m = lgUnd I d i (m + 1) := fun z => by have e : lgUnd I d i m + 0 = lgUnd I d i (m + 1) := cntI_no (g := fun k : Int => I d (k * 8) = 2 ∧ I d (k * 8 + 1) = i) (n := m) z; omega
      clear ih
      refine VW.iload_n (pc' := 5) d_Log_countUndone_4 rfl rfl ?_
      refine VW.aload_n (pc' := 6) d_Log_countUndone_5 rfl rfl ?_
      refine VW.gI (ci := 2) (T := T2) (N := 5) (k := 0) (k' := 0) (pc' := 9) d_Log_countUndone_6 rfl lk_Log_22 in2 rfl rfl rfl rfl (by first | exact hG.1 | exact hG.2.1.2 | exact hG.2.2.1.2 | exact hG.2.2.2.2) (by first | exact hG.2.1.1 | exact hG.2.2.1.1 | exact hG.2.2.2.1 | rfl) ?_
      refine VW.icmp_ge (tgt := 39) (pc' := 12) d_Log_countUndone_9 rfl rfl (fun c9 => ?_) (fun c9 => ?_)
      · exfalso; omega
      · refine VW.aload_n (pc' := 13) d_Log_countUndone_12 rfl rfl ?_
        refine VW.iload_n (pc' := 14) d_Log_countUndone_13 rfl rfl ?_
        refine VW.cV (ci := 2) (T := T2) (N := 5) (pc' := 17) d_Log_countUndone_14 rfl mv_Log_kindOf lk_Log_63 rfl (by first | exact hG.1 | exact hG.2.1.2 | exact hG.2.2.1.2 | exact hG.2.2.2.2) rfl rfl rfl (Nat.le_refl _) (Nat.le_refl _) (sp_Log_kindOf hG (by omega)) rfl rfl ?_
        refine VW.iconst (pc' := 18) d_Log_countUndone_17 rfl (by decide) ?_
        refine VW.icmp_ne (tgt := 33) (pc' := 21) d_Log_countUndone_18 rfl rfl (fun c18 => ?_) (fun c18 => ?_)
        · refine VW.iinc (pc' := 36) d_Log_countUndone_33 rfl rfl rfl (by omega) ?_
          refine VW.goto (pc' := 4) d_Log_countUndone_36 rfl ?_
          refine VW.nrm ?_
          first | (rw [y c18 c27]; exact nx) | (rw [n0 (fun h => c27 h.2)]; exact nx) | (rw [n0 (fun h => c18 h.1)]; exact nx)
        · refine VW.aload_n (pc' := 22) d_Log_countUndone_21 rfl rfl ?_
          refine VW.iload_n (pc' := 23) d_Log_countUndone_22 rfl rfl ?_
          refine VW.cV (ci := 2) (T := T2) (N := 5) (pc' := 26) d_Log_countUndone_23 rfl mv_Log_writerOf lk_Log_66 rfl (by first | exact hG.1 | exact hG.2.1.2 | exact hG.2.2.1.2 | exact hG.2.2.2.2) rfl rfl rfl (Nat.le_refl _) (Nat.le_refl _) (sp_Log_writerOf hG (by omega)) rfl rfl ?_
          refine VW.iload_n (pc' := 27) d_Log_countUndone_26 rfl rfl ?_
          refine VW.icmp_ne (tgt := 33) (pc' := 30) d_Log_countUndone_27 rfl rfl (fun c27 => ?_) (fun c27 => ?_)
          · refine VW.iinc (pc' := 36) d_Log_countUndone_33 rfl rfl rfl (by omega) ?_
            refine VW.goto (pc' := 4) d_Log_countUndone_36 rfl ?_
            refine VW.nrm ?_
            first | (rw [y c18 c27]; exact nx) | (rw [n0 (fun h => c27 h.2)]; exact nx) | (rw [n0 (fun h => c18 h.1)]; exact nx)
          · refine VW.iinc (pc' := 33) d_Log_countUndone_30 rfl rfl rfl (by omega) ?_
            refine VW.iinc (pc' := 36) d_Log_countUndone_33 rfl rfl rfl (by omega) ?_
            refine VW.goto (pc' := 4) d_Log_countUndone_36 rfl ?_
            refine VW.nrm ?_
            first | (rw [y c18 c27]; exact nx) | (rw [n0 (fun h => c27 h.2)]; exact nx) | (rw [n0 (fun h => c18 h.1)]; exact nx)
  have l := loop (I g 0).toNat 0 (by omega)
  clear loop
  refine VW.iconst (pc' := 1) d_Log_countUndone_0 rfl (by decide) ?_
  refine VW.istore_n (pc' := 2) d_Log_countUndone_1 rfl rfl ?_
  refine VW.iconst (pc' := 3) d_Log_countUndone_2 rfl (by decide) ?_
  refine VW.istore_n (pc' := 4) d_Log_countUndone_3 rfl rfl ?_
  refine VW.nrm ?_
  exact l
end
