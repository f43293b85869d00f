section
variable {K : KT} {P : PT} {J I : IT}
/-- a transaction x: its rows r, the row it writes w, what it has read a b (n places), the footprints f (n2) -/
def TxW (K : KT) (P : PT) (x r w a b n f n2 : Nat) : Prop := K x = some (8, 0) ∧ P x 3 = some r ∧ (P x 12 = some w ∧ K w = some (100, 4)) ∧ (P x 15 = some a ∧ K a = some (100, n)) ∧ (P x 16 = some b ∧ K b = some (100, n)) ∧ (P x 18 = some f ∧ K f = some (100, n2))
/-- it has read a key -/
noncomputable def txRd (I : IT) (x a b : Nat) (t y : Int) : Int := bI (∃ j : Int, 0 ≤ j ∧ j < I x 14 ∧ (I a j = t ∧ I b j = y))
/-- it has read a table whole -/
def txWh (I : IT) (x : Nat) (t : Int) : Int := if I x 13 / 2 ^ t.toNat % 2 = 1 then 1 else 0
theorem txWh_01 (I : IT) (x : Nat) (t : Int) : txWh I x t = 0 ∨ txWh I x t = 1 := by unfold txWh; split <;> simp
theorem sp_Transaction_isOpen {x r w a b n f n2 : Nat} (hG : TxW K P x r w a b n f n2)  : Sp m_Transaction_isOpen false (rmv 0 0) (ex K P J I (.inl (some (vI (bI (I x 4 = 0 ∨ I x 4 = 1)))))) K P J I [vR (some x)] := by
  refine Sp.ofV (by decide) (Or.inr rfl) rfl ?_
  refine VW.aload_n (pc' := 1) d_Transaction_isOpen_0 rfl rfl ?_
  refine VW.gI (ci := 8) (T := T8) (N := 19) (k := 4) (k' := 4) (pc' := 4) d_Transaction_isOpen_1 rfl lk_Transaction_18 in8 rfl rfl rfl rfl (by first | exact hG.1 | exact hG.2.2.1.2 | exact hG.2.2.2.1.2 | exact hG.2.2.2.2.1.2 | exact hG.2.2.2.2.2.2) (by first | exact hG.2.1 | exact hG.2.2.1.1 | exact hG.2.2.2.1.1 | exact hG.2.2.2.2.1.1 | exact hG.2.2.2.2.2.1 | rfl) ?_
  refine VW.if_eq (tgt := 15) (pc' := 7) d_Transaction_isOpen_4 rfl rfl (fun c4 => ?_) (fun c4 => ?_)
  · try have e4 := bIe c4
    refine VW.iconst (pc' := 16) d_Transaction_isOpen_15 rfl (by decide) ?_
    refine VW.goto (pc' := 20) d_Transaction_isOpen_16 rfl ?_
    exact VW.iret d_Transaction_isOpen_20 rfl rfl (Nat.zero_le _) (Nat.zero_le _) (by first | (rw [bI1 (by omega)]; exact ex_rf) | (rw [bI0 (by omega)]; exact ex_rf))
  · try have e4 := bIn c4
    refine VW.aload_n (pc' := 8) d_Transaction_isOpen_7 rfl rfl ?_
    refine VW.gI (ci := 8) (T := T8) (N := 19) (k := 4) (k' := 4) (pc' := 11) d_Transaction_isOpen_8 rfl lk_Transaction_18 in8 rfl rfl rfl rfl (by first | exact hG.1 | exact hG.2.2.1.2 | exact hG.2.2.2.1.2 | exact hG.2.2.2.2.1.2 | exact hG.2.2.2.2.2.2) (by first | exact hG.2.1 | exact hG.2.2.1.1 | exact hG.2.2.2.1.1 | exact hG.2.2.2.2.1.1 | exact hG.2.2.2.2.2.1 | rfl) ?_
    refine VW.iconst (pc' := 12) d_Transaction_isOpen_11 rfl (by decide) ?_
    refine VW.icmp_ne (tgt := 19) (pc' := 15) d_Transaction_isOpen_12 rfl rfl (fun c12 => ?_) (fun c12 => ?_)
    · refine VW.iconst (pc' := 20) d_Transaction_isOpen_19 rfl (by decide) ?_
      exact VW.iret d_Transaction_isOpen_20 rfl rfl (Nat.zero_le _) (Nat.zero_le _) (by first | (rw [bI1 (by omega)]; exact ex_rf) | (rw [bI0 (by omega)]; exact ex_rf))
    · refine VW.iconst (pc' := 16) d_Transaction_isOpen_15 rfl (by decide) ?_
      refine VW.goto (pc' := 20) d_Transaction_isOpen_16 rfl ?_
      exact VW.iret d_Transaction_isOpen_20 rfl rfl (Nat.zero_le _) (Nat.zero_le _) (by first | (rw [bI1 (by omega)]; exact ex_rf) | (rw [bI0 (by omega)]; exact ex_rf))
theorem sp_Transaction_planUpdate {x r w a b n f n2 : Nat} {t y c v : Int} (hG : TxW K P x r w a b n f n2)  : Sp m_Transaction_planUpdate false (rmv 0 0) (ex K P J (up2 (up2 (up2 (up2 (up2 I x 7 1) x 8 t) x 9 y) x 10 c) x 11 v) (.inl none)) K P J I [vR (some x), vI t, vI y, vI c, vI v] := by
  refine Sp.ofV (by decide) (Or.inr rfl) rfl ?_
  refine VW.aload_n (pc' := 1) d_Transaction_planUpdate_0 rfl rfl ?_
  refine VW.iconst (pc' := 2) d_Transaction_planUpdate_1 rfl (by decide) ?_
  refine VW.pI (ci := 8) (T := T8) (N := 19) (k := 7) (k' := 7) (ty := ty8) (pc' := 5) d_Transaction_planUpdate_2 rfl lk_Transaction_50 in8 tk8 nm8 rfl rfl rfl rfl rfl rfl (by first | exact hG.1 | exact hG.2.2.1.2 | exact hG.2.2.2.1.2 | exact hG.2.2.2.2.1.2 | exact hG.2.2.2.2.2.2) ?_
  refine VW.aload_n (pc' := 6) d_Transaction_planUpdate_5 rfl rfl ?_
  refine VW.iload_n (pc' := 7) d_Transaction_planUpdate_6 rfl rfl ?_
  refine VW.pI (ci := 8) (T := T8) (N := 19) (k := 8) (k' := 8) (ty := ty8) (pc' := 10) d_Transaction_planUpdate_7 rfl lk_Transaction_53 in8 tk8 nm8 rfl rfl rfl rfl rfl rfl (by first | exact hG.1 | exact hG.2.2.1.2 | exact hG.2.2.2.1.2 | exact hG.2.2.2.2.1.2 | exact hG.2.2.2.2.2.2) ?_
  refine VW.aload_n (pc' := 11) d_Transaction_planUpdate_10 rfl rfl ?_
  refine VW.iload_n (pc' := 12) d_Transaction_planUpdate_11 rfl rfl ?_
  refine VW.pI (ci := 8) (T := T8) (N := 19) (k := 9) (k' := 9) (ty := ty8) (pc' := 15) d_Transaction_planUpdate_12 rfl lk_Transaction_69 in8 tk8 nm8 rfl rfl rfl rfl rfl rfl (by first | exact hG.1 | exact hG.2.2.1.2 | exact hG.2.2.2.1.2 | exact hG.2.2.2.2.1.2 | exact hG.2.2.2.2.2.2) ?_
  refine VW.aload_n (pc' := 16) d_Transaction_planUpdate_15 rfl rfl ?_
  refine VW.iload_n (pc' := 17) d_Transaction_planUpdate_16 rfl rfl ?_
  refine VW.pI (ci := 8) (T := T8) (N := 19) (k := 10) (k' := 10) (ty := ty8) (pc' := 20) d_Transaction_planUpdate_17 rfl lk_Transaction_72 in8 tk8 nm8 rfl rfl rfl rfl rfl rfl (by first | exact hG.1 | exact hG.2.2.1.2 | exact hG.2.2.2.1.2 | exact hG.2.2.2.2.1.2 | exact hG.2.2.2.2.2.2) ?_
  refine VW.aload_n (pc' := 21) d_Transaction_planUpdate_20 rfl rfl ?_
  refine VW.iload (pc' := 23) d_Transaction_planUpdate_21 rfl rfl ?_
  refine VW.pI (ci := 8) (T := T8) (N := 19) (k := 11) (k' := 11) (ty := ty8) (pc' := 26) d_Transaction_planUpdate_23 rfl lk_Transaction_75 in8 tk8 nm8 rfl rfl rfl rfl rfl rfl (by first | exact hG.1 | exact hG.2.2.1.2 | exact hG.2.2.2.1.2 | exact hG.2.2.2.2.1.2 | exact hG.2.2.2.2.2.2) ?_
  exact VW.vret d_Transaction_planUpdate_26 rfl (Nat.zero_le _) (Nat.zero_le _) ex_rf
theorem sp_Transaction_planDelete {x r w a b n f n2 : Nat} {t y : Int} (hG : TxW K P x r w a b n f n2)  : Sp m_Transaction_planDelete false (rmv 0 0) (ex K P J (up2 (up2 (up2 I x 7 2) x 8 t) x 9 y) (.inl none)) K P J I [vR (some x), vI t, vI y] := by
  refine Sp.ofV (by decide) (Or.inr rfl) rfl ?_
  refine VW.aload_n (pc' := 1) d_Transaction_planDelete_0 rfl rfl ?_
  refine VW.iconst (pc' := 2) d_Transaction_planDelete_1 rfl (by decide) ?_
  refine VW.pI (ci := 8) (T := T8) (N := 19) (k := 7) (k' := 7) (ty := ty8) (pc' := 5) d_Transaction_planDelete_2 rfl lk_Transaction_50 in8 tk8 nm8 rfl rfl rfl rfl rfl rfl (by first | exact hG.1 | exact hG.2.2.1.2 | exact hG.2.2.2.1.2 | exact hG.2.2.2.2.1.2 | exact hG.2.2.2.2.2.2) ?_
  refine VW.aload_n (pc' := 6) d_Transaction_planDelete_5 rfl rfl ?_
  refine VW.iload_n (pc' := 7) d_Transaction_planDelete_6 rfl rfl ?_
  refine VW.pI (ci := 8) (T := T8) (N := 19) (k := 8) (k' := 8) (ty := ty8) (pc' := 10) d_Transaction_planDelete_7 rfl lk_Transaction_53 in8 tk8 nm8 rfl rfl rfl rfl rfl rfl (by first | exact hG.1 | exact hG.2.2.1.2 | exact hG.2.2.2.1.2 | exact hG.2.2.2.2.1.2 | exact hG.2.2.2.2.2.2) ?_
  refine VW.aload_n (pc' := 11) d_Transaction_planDelete_10 rfl rfl ?_
  refine VW.iload_n (pc' := 12) d_Transaction_planDelete_11 rfl rfl ?_
  refine VW.pI (ci := 8) (T := T8) (N := 19) (k := 9) (k' := 9) (ty := ty8) (pc' := 15) d_Transaction_planDelete_12 rfl lk_Transaction_69 in8 tk8 nm8 rfl rfl rfl rfl rfl rfl (by first | exact hG.1 | exact hG.2.2.1.2 | exact hG.2.2.2.1.2 | exact hG.2.2.2.2.1.2 | exact hG.2.2.2.2.2.2) ?_
  exact VW.vret d_Transaction_planDelete_15 rfl (Nat.zero_le _) (Nat.zero_le _) ex_rf
theorem sp_Transaction_hasReadWhole {x r w a b n f n2 : Nat} {t : Int} (hG : TxW K P x r w a b n f n2) (ht : 0 ≤ t ∧ t < 6) (hw : 0 ≤ I x 13 ∧ I x 13 < 64) : Sp m_Transaction_hasReadWhole false (rmv 0 0) (ex K P J I (.inl (some (vI (txWh I x t))))) K P J I [vR (some x), vI t] := by
  refine Sp.ofV (by decide) (Or.inr rfl) rfl ?_
  have i1 := ishr32 (a := I x 13) (b := t) ⟨by omega, by omega⟩ ht.1 (by omega)
  have d0 : 0 ≤ I x 13 / 2 ^ t.toNat := Int.ediv_nonneg hw.1 (Int.le_of_lt (Int.pow_pos (by decide)))
  have d1 : I x 13 / 2 ^ t.toNat ≤ I x 13 := Int.ediv_le_self _ hw.1
  have a1 := iand1 d0 (by omega)
  have y : I x 13 / 2 ^ t.toNat % 2 = 1 → txWh I x t = 1 := fun z => if_pos z
  have n0 : ¬ I x 13 / 2 ^ t.toNat % 2 = 1 → txWh I x t = 0 := fun z => if_neg z
  refine VW.aload_n (pc' := 1) d_Transaction_hasReadWhole_0 rfl rfl ?_
  refine VW.gI (ci := 8) (T := T8) (N := 19) (k := 13) (k' := 13) (pc' := 4) d_Transaction_hasReadWhole_1 rfl lk_Transaction_78 in8 rfl rfl rfl rfl (by first | exact hG.1 | exact hG.2.2.1.2 | exact hG.2.2.2.1.2 | exact hG.2.2.2.2.1.2 | exact hG.2.2.2.2.2.2) (by first | exact hG.2.1 | exact hG.2.2.1.1 | exact hG.2.2.2.1.1 | exact hG.2.2.2.2.1.1 | exact hG.2.2.2.2.2.1 | rfl) ?_
  refine VW.iload_n (pc' := 5) d_Transaction_hasReadWhole_4 rfl rfl ?_
  refine VW.ishr (pc' := 6) (z := I x 13 / 2 ^ t.toNat) d_Transaction_hasReadWhole_5 rfl (⟨by omega, by omega⟩) (i1) ?_
  refine VW.iconst (pc' := 7) d_Transaction_hasReadWhole_6 rfl (by decide) ?_
  refine VW.iand (pc' := 8) (z := I x 13 / 2 ^ t.toNat % 2) d_Transaction_hasReadWhole_7 rfl (⟨by omega, by omega⟩) (a1) ?_
  refine VW.if_eq (tgt := 15) (pc' := 11) d_Transaction_hasReadWhole_8 rfl rfl (fun c8 => ?_) (fun c8 => ?_)
  · try have e8 := bIe c8
    refine VW.iconst (pc' := 16) d_Transaction_hasReadWhole_15 rfl (by decide) ?_
    exact VW.iret d_Transaction_hasReadWhole_16 rfl rfl (Nat.zero_le _) (Nat.zero_le _) (by first | (rw [n0 (by omega)]; exact ex_rf) | (rw [y (by omega)]; exact ex_rf))
  · try have e8 := bIn c8
    refine VW.iconst (pc' := 12) d_Transaction_hasReadWhole_11 rfl (by decide) ?_
    refine VW.goto (pc' := 16) d_Transaction_hasReadWhole_12 rfl ?_
    exact VW.iret d_Transaction_hasReadWhole_16 rfl rfl (Nat.zero_le _) (Nat.zero_le _) (by first | (rw [n0 (by omega)]; exact ex_rf) | (rw [y (by omega)]; exact ex_rf))
theorem sp_Transaction_hasReadKey {x r w a b n f n2 : Nat} {t y : Int} (hG : TxW K P x r w a b n f n2) (hr : 0 ≤ I x 14 ∧ I x 14 ≤ n ∧ n ≤ 524288) : Sp m_Transaction_hasReadKey false (rmv 0 0) (ex K P J I (.inl (some (vI (txRd I x a b t y))))) K P J I [vR (some x), vI t, vI y] := by
  refine Sp.ofV (by decide) (Or.inr rfl) rfl ?_
  have loop : ∀ (l : Nat) (j : Int), j + l = I x 14 → 0 ≤ j → (∀ q : Int, 0 ≤ q → q < j → ¬ (I a q = t ∧ I b q = y)) → VW m_Transaction_hasReadKey false (rmv 0 0) (ex K P J I (.inl (some (vI (txRd I x a b t y))))) K P J I 0 0 2 [(0, vR (some x)), (1, vI t), (2, vI y), (3, vI j)] [] := by
    intro l
    induction l with
    | zero =>
      intro j hj h0 hn
      have e : txRd I x a b t y = 0 := bI0 (fun ⟨q, q0, q1, q2⟩ => hn q q0 (by omega) q2)
      refine VW.iload_n (pc' := 3) d_Transaction_hasReadKey_2 rfl rfl ?_
      refine VW.aload_n (pc' := 4) d_Transaction_hasReadKey_3 rfl rfl ?_
      refine VW.gI (ci := 8) (T := T8) (N := 19) (k := 14) (k' := 14) (pc' := 7) d_Transaction_hasReadKey_4 rfl lk_Transaction_85 in8 rfl rfl rfl rfl (by first | exact hG.1 | exact hG.2.2.1.2 | exact hG.2.2.2.1.2 | exact hG.2.2.2.2.1.2 | exact hG.2.2.2.2.2.2) (by first | exact hG.2.1 | exact hG.2.2.1.1 | exact hG.2.2.2.1.1 | exact hG.2.2.2.2.1.1 | exact hG.2.2.2.2.2.1 | rfl) ?_
      refine VW.icmp_ge (tgt := 38) (pc' := 10) d_Transaction_hasReadKey_7 rfl rfl (fun c7 => ?_) (fun c7 => ?_)
      · refine VW.iconst (pc' := 39) d_Transaction_hasReadKey_38 rfl (by decide) ?_
        exact VW.iret d_Transaction_hasReadKey_39 rfl rfl (Nat.zero_le _) (Nat.zero_le _) (by rw [e]; exact ex_rf)
      · exfalso; omega
    | succ l ih =>
      intro j hj h0 hn
      have nx := fun (z : ¬ (I a j = t ∧ I b j = y)) => ih (j + 1) (by omega) (by omega) (fun q q0 q1 => by
        by_cases e : q = j
        · rw [e]; exact z
        · exact hn q q0 (by omega))
      have e : I a j = t → I b j = y → txRd I x a b t y = 1 := fun z w => bI1 ⟨j, h0, by omega, z, w⟩
      clear ih hn
      refine VW.iload_n (pc' := 3) d_Transaction_hasReadKey_2 rfl rfl ?_
      refine VW.aload_n (pc' := 4) d_Transaction_hasReadKey_3 rfl rfl ?_
      refine VW.gI (ci := 8) (T := T8) (N := 19) (k := 14) (k' := 14) (pc' := 7) d_Transaction_hasReadKey_4 rfl lk_Transaction_85 in8 rfl rfl rfl rfl (by first | exact hG.1 | exact hG.2.2.1.2 | exact hG.2.2.2.1.2 | exact hG.2.2.2.2.1.2 | exact hG.2.2.2.2.2.2) (by first | exact hG.2.1 | exact hG.2.2.1.1 | exact hG.2.2.2.1.1 | exact hG.2.2.2.2.1.1 | exact hG.2.2.2.2.2.1 | rfl) ?_
      refine VW.icmp_ge (tgt := 38) (pc' := 10) d_Transaction_hasReadKey_7 rfl rfl (fun c7 => ?_) (fun c7 => ?_)
      · exfalso; omega
      · refine VW.aload_n (pc' := 11) d_Transaction_hasReadKey_10 rfl rfl ?_
        refine VW.gP (ci := 8) (T := T8) (N := 19) (k := 15) (k' := 15) (pc' := 14) d_Transaction_hasReadKey_11 rfl lk_Transaction_32 in8 rfl rfl rfl rfl (by first | exact hG.1 | exact hG.2.2.1.2 | exact hG.2.2.2.1.2 | exact hG.2.2.2.2.1.2 | exact hG.2.2.2.2.2.2) (by first | exact hG.2.1 | exact hG.2.2.1.1 | exact hG.2.2.2.1.1 | exact hG.2.2.2.2.1.1 | exact hG.2.2.2.2.2.1 | rfl) ?_
        refine VW.iload_n (pc' := 15) d_Transaction_hasReadKey_14 rfl rfl ?_
        refine VW.ild (pc' := 16) d_Transaction_hasReadKey_15 rfl (by first | exact hG.1 | exact hG.2.2.1.2 | exact hG.2.2.2.1.2 | exact hG.2.2.2.2.1.2 | exact hG.2.2.2.2.2.2) (by omega) (by omega) (by first | exact hG.2.1 | exact hG.2.2.1.1 | exact hG.2.2.2.1.1 | exact hG.2.2.2.2.1.1 | exact hG.2.2.2.2.2.1 | rfl) ?_
        refine VW.iload_n (pc' := 17) d_Transaction_hasReadKey_16 rfl rfl ?_
        refine VW.icmp_ne (tgt := 32) (pc' := 20) d_Transaction_hasReadKey_17 rfl rfl (fun c17 => ?_) (fun c17 => ?_)
        · refine VW.iinc (pc' := 35) d_Transaction_hasReadKey_32 rfl rfl rfl (by omega) ?_
          refine VW.goto (pc' := 2) d_Transaction_hasReadKey_35 rfl ?_
          refine VW.nrm ?_
          first | exact nx (fun h => c27 h.2) | exact nx (fun h => c17 h.1)
        · refine VW.aload_n (pc' := 21) d_Transaction_hasReadKey_20 rfl rfl ?_
          refine VW.gP (ci := 8) (T := T8) (N := 19) (k := 16) (k' := 16) (pc' := 24) d_Transaction_hasReadKey_21 rfl lk_Transaction_35 in8 rfl rfl rfl rfl (by first | exact hG.1 | exact hG.2.2.1.2 | exact hG.2.2.2.1.2 | exact hG.2.2.2.2.1.2 | exact hG.2.2.2.2.2.2) (by first | exact hG.2.1 | exact hG.2.2.1.1 | exact hG.2.2.2.1.1 | exact hG.2.2.2.2.1.1 | exact hG.2.2.2.2.2.1 | rfl) ?_
          refine VW.iload_n (pc' := 25) d_Transaction_hasReadKey_24 rfl rfl ?_
          refine VW.ild (pc' := 26) d_Transaction_hasReadKey_25 rfl (by first | exact hG.1 | exact hG.2.2.1.2 | exact hG.2.2.2.1.2 | exact hG.2.2.2.2.1.2 | exact hG.2.2.2.2.2.2) (by omega) (by omega) (by first | exact hG.2.1 | exact hG.2.2.1.1 | exact hG.2.2.2.1.1 | exact hG.2.2.2.2.1.1 | exact hG.2.2.2.2.2.1 | rfl) ?_
          refine VW.iload_n (pc' := 27) d_Transaction_hasReadKey_26 rfl rfl ?_
          refine VW.icmp_ne (tgt := 32) (pc' := 30) d_Transaction_hasReadKey_27 rfl rfl (fun c27 => ?_) (fun c27 => ?_)
          · refine VW.iinc (pc' := 35) d_Transaction_hasReadKey_32 rfl rfl rfl (by omega) ?_
            refine VW.goto (pc' := 2) d_Transaction_hasReadKey_35 rfl ?_
            refine VW.nrm ?_
            first | exact nx (fun h => c27 h.2) | exact nx (fun h => c17 h.1)
          · refine VW.iconst (pc' := 31) d_Transaction_hasReadKey_30 rfl (by decide) ?_
            exact VW.iret d_Transaction_hasReadKey_31 rfl rfl (Nat.zero_le _) (Nat.zero_le _) (by rw [e c17 c27]; exact ex_rf)
  have l := loop (I x 14).toNat 0 (by omega) (Int.le_refl _) (fun q q0 q1 => by omega)
  clear loop
  refine VW.iconst (pc' := 1) d_Transaction_hasReadKey_0 rfl (by decide) ?_
  refine VW.istore_n (pc' := 2) d_Transaction_hasReadKey_1 rfl rfl ?_
  refine VW.nrm ?_
  exact l
theorem sp_Transaction_knows {x r w a b n f n2 : Nat} {t y : Int} (hG : TxW K P x r w a b n f n2) (ht : 0 ≤ t ∧ t < 6) (hw : 0 ≤ I x 13 ∧ I x 13 < 64) (hr : 0 ≤ I x 14 ∧ I x 14 ≤ n ∧ n ≤ 524288) : Sp m_Transaction_knows false (rmv 1 23) (ex K P J I (.inl (some (vI (bI (txWh I x t = 1 ∨ txRd I x a b t y = 1)))))) K P J I [vR (some x), vI t, vI y] := by
  refine Sp.ofV (by decide) (Or.inr rfl) rfl ?_
  have w1 := txWh_01 I x t
  have w2 : txRd I x a b t y = 0 ∨ txRd I x a b t y = 1 := bI_01 _
  refine VW.aload_n (pc' := 1) d_Transaction_knows_0 rfl rfl ?_
  refine VW.iload_n (pc' := 2) d_Transaction_knows_1 rfl rfl ?_
  refine VW.cV (ci := 8) (T := T8) (N := 19) (pc' := 5) d_Transaction_knows_2 rfl mv_Transaction_hasReadWhole lk_Transaction_92 rfl (by first | exact hG.1 | exact hG.2.2.1.2 | exact hG.2.2.2.1.2 | exact hG.2.2.2.2.1.2 | exact hG.2.2.2.2.2.2) rfl rfl rfl (Nat.le_refl _) (Nat.le_refl _) (sp_Transaction_hasReadWhole hG ht hw) rfl rfl ?_
  refine VW.if_ne (tgt := 17) (pc' := 8) d_Transaction_knows_5 rfl rfl (fun c5 => ?_) (fun c5 => ?_)
  · try have e5 := bIn c5
    refine VW.iconst (pc' := 18) d_Transaction_knows_17 rfl (by decide) ?_
    refine VW.goto (pc' := 22) d_Transaction_knows_18 rfl ?_
    exact VW.iret d_Transaction_knows_22 rfl rfl (Nat.zero_le _) (Nat.zero_le _) (by first | (rw [bI1 (by omega)]; exact ex_rf) | (rw [bI0 (by omega)]; exact ex_rf))
  · try have e5 := bIe c5
    refine VW.aload_n (pc' := 9) d_Transaction_knows_8 rfl rfl ?_
    refine VW.iload_n (pc' := 10) d_Transaction_knows_9 rfl rfl ?_
    refine VW.iload_n (pc' := 11) d_Transaction_knows_10 rfl rfl ?_
    refine VW.cV (ci := 8) (T := T8) (N := 19) (pc' := 14) d_Transaction_knows_11 rfl mv_Transaction_hasReadKey lk_Transaction_81 rfl (by first | exact hG.1 | exact hG.2.2.1.2 | exact hG.2.2.2.1.2 | exact hG.2.2.2.2.1.2 | exact hG.2.2.2.2.2.2) rfl rfl rfl (Nat.le_refl _) (Nat.le_refl _) (sp_Transaction_hasReadKey hG hr) rfl rfl ?_
    refine VW.if_eq (tgt := 21) (pc' := 17) d_Transaction_knows_14 rfl rfl (fun c14 => ?_) (fun c14 => ?_)
    · try have e14 := bIe c14
      refine VW.iconst (pc' := 22) d_Transaction_knows_21 rfl (by decide) ?_
      exact VW.iret d_Transaction_knows_22 rfl rfl (Nat.zero_le _) (Nat.zero_le _) (by first | (rw [bI1 (by omega)]; exact ex_rf) | (rw [bI0 (by omega)]; exact ex_rf))
    · try have e14 := bIn c14
      refine VW.iconst (pc' := 18) d_Transaction_knows_17 rfl (by decide) ?_
      refine VW.goto (pc' := 22) d_Transaction_knows_18 rfl ?_
      exact VW.iret d_Transaction_knows_22 rfl rfl (Nat.zero_le _) (Nat.zero_le _) (by first | (rw [bI1 (by omega)]; exact ex_rf) | (rw [bI0 (by omega)]; exact ex_rf))
theorem sp_Transaction_readWhole {x r w a b n f n2 : Nat} {t : Int} (hG : TxW K P x r w a b n f n2) (ht : 0 ≤ t ∧ t < 6) (hw : 0 ≤ I x 13 ∧ I x 13 < 64) : Sp m_Transaction_readWhole false (rmv 0 0) (ex K P J (up2 I x 13 (orB (I x 13) t)) (.inl none)) K P J I [vR (some x), vI t] := by
  refine Sp.ofV (by decide) (Or.inr rfl) rfl ?_
  have i1 := ishl1 (b := t) ht.1 (by omega)
  have o1 := ior64 (a := I x 13) (k := t) hw.1 hw.2 ht.1 ht.2
  have og := orB64 ⟨(I x 13).toNat, by omega⟩ ⟨t.toNat, by omega⟩
  have e1 : ((I x 13).toNat : Int) = I x 13 := by omega
  have e2 : (t.toNat : Int) = t := by omega
  have p1 : (2 : Int) ^ t.toNat ≤ 32 := by
    have h : t.toNat = 0 ∨ t.toNat = 1 ∨ t.toNat = 2 ∨ t.toNat = 3 ∨ t.toNat = 4 ∨ t.toNat = 5 := by omega
    rcases h with h | h | h | h | h | h <;> rw [h] <;> decide
  have p2 : 0 < (2 : Int) ^ t.toNat := Int.pow_pos (by decide)
  simp only [] at og
  rw [e1, e2] at og
  refine VW.aload_n (pc' := 1) d_Transaction_readWhole_0 rfl rfl ?_
  refine VW.dup (pc' := 2) d_Transaction_readWhole_1 rfl rfl ?_
  refine VW.gI (ci := 8) (T := T8) (N := 19) (k := 13) (k' := 13) (pc' := 5) d_Transaction_readWhole_2 rfl lk_Transaction_78 in8 rfl rfl rfl rfl (by first | exact hG.1 | exact hG.2.2.1.2 | exact hG.2.2.2.1.2 | exact hG.2.2.2.2.1.2 | exact hG.2.2.2.2.2.2) (by first | exact hG.2.1 | exact hG.2.2.1.1 | exact hG.2.2.2.1.1 | exact hG.2.2.2.2.1.1 | exact hG.2.2.2.2.2.1 | rfl) ?_
  refine VW.iconst (pc' := 6) d_Transaction_readWhole_5 rfl (by decide) ?_
  refine VW.iload_n (pc' := 7) d_Transaction_readWhole_6 rfl rfl ?_
  refine VW.ishl (pc' := 8) (z := 2 ^ t.toNat) d_Transaction_readWhole_7 rfl (⟨by omega, by omega⟩) (i1) ?_
  refine VW.ior (pc' := 9) (z := orB (I x 13) t) d_Transaction_readWhole_8 rfl (⟨by omega, by omega⟩) (o1) ?_
  refine VW.pI (ci := 8) (T := T8) (N := 19) (k := 13) (k' := 13) (ty := ty8) (pc' := 12) d_Transaction_readWhole_9 rfl lk_Transaction_78 in8 tk8 nm8 rfl rfl rfl rfl rfl rfl (by first | exact hG.1 | exact hG.2.2.1.2 | exact hG.2.2.2.1.2 | exact hG.2.2.2.2.1.2 | exact hG.2.2.2.2.2.2) ?_
  exact VW.vret d_Transaction_readWhole_12 rfl (Nat.zero_le _) (Nat.zero_le _) ex_rf
end
