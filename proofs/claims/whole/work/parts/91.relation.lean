section
variable {K : KT} {P : PT} {J I : IT}
/-- a result e: its cells are in the array c (n places) -/
def ReW (K : KT) (P : PT) (e c n : Nat) : Prop := K e = some (5, 0) ∧ (P e 0 = some c ∧ K c = some (100, n))
def ReB (I : IT) (e n : Nat) : Prop := (0 ≤ I e 1 ∧ I e 1 ≤ 4096) ∧ (0 ≤ I e 2 ∧ I e 2 ≤ 64) ∧ I e 1 * I e 2 ≤ n
theorem sp_Relation_hasCell {e c n : Nat} {a b : Int} (hG : ReW K P e c n) : Sp m_Relation_hasCell false (rmv 0 0) (ex K P J I (.inl (some (vI (bI ((0 ≤ a ∧ a < I e 1) ∧ 0 ≤ b ∧ b < I e 2)))))) K P J I [vR (some e), vI a, vI b] := by
  refine Sp.ofV (by decide) (Or.inr rfl) rfl ?_
  refine VW.iload_n (pc' := 1) d_Relation_hasCell_0 rfl rfl ?_
  refine VW.if_lt (tgt := 28) (pc' := 4) d_Relation_hasCell_1 rfl rfl (fun c1 => ?_) (fun c1 => ?_)
  · refine VW.iconst (pc' := 29) d_Relation_hasCell_28 rfl (by decide) ?_
    exact VW.iret d_Relation_hasCell_29 rfl rfl (Nat.zero_le _) (Nat.zero_le _) (by first | (rw [bI1 (by omega)]; exact ex_rf) | (rw [bI0 (by omega)]; exact ex_rf))
  · refine VW.iload_n (pc' := 5) d_Relation_hasCell_4 rfl rfl ?_
    refine VW.aload_n (pc' := 6) d_Relation_hasCell_5 rfl rfl ?_
    refine VW.gI (ci := 5) (T := T5) (N := 3) (k := 1) (k' := 1) (pc' := 9) d_Relation_hasCell_6 rfl lk_Relation_15 in5 rfl rfl rfl rfl (by first | exact hG.1 | exact hG.2.2) (by first | exact hG.2.1 | rfl) ?_
    refine VW.icmp_ge (tgt := 28) (pc' := 12) d_Relation_hasCell_9 rfl rfl (fun c9 => ?_) (fun c9 => ?_)
    · refine VW.iconst (pc' := 29) d_Relation_hasCell_28 rfl (by decide) ?_
      exact VW.iret d_Relation_hasCell_29 rfl rfl (Nat.zero_le _) (Nat.zero_le _) (by first | (rw [bI1 (by omega)]; exact ex_rf) | (rw [bI0 (by omega)]; exact ex_rf))
    · refine VW.iload_n (pc' := 13) d_Relation_hasCell_12 rfl rfl ?_
      refine VW.if_lt (tgt := 28) (pc' := 16) d_Relation_hasCell_13 rfl rfl (fun c13 => ?_) (fun c13 => ?_)
      · refine VW.iconst (pc' := 29) d_Relation_hasCell_28 rfl (by decide) ?_
        exact VW.iret d_Relation_hasCell_29 rfl rfl (Nat.zero_le _) (Nat.zero_le _) (by first | (rw [bI1 (by omega)]; exact ex_rf) | (rw [bI0 (by omega)]; exact ex_rf))
      · refine VW.iload_n (pc' := 17) d_Relation_hasCell_16 rfl rfl ?_
        refine VW.aload_n (pc' := 18) d_Relation_hasCell_17 rfl rfl ?_
        refine VW.gI (ci := 5) (T := T5) (N := 3) (k := 2) (k' := 2) (pc' := 21) d_Relation_hasCell_18 rfl lk_Relation_19 in5 rfl rfl rfl rfl (by first | exact hG.1 | exact hG.2.2) (by first | exact hG.2.1 | rfl) ?_
        refine VW.icmp_ge (tgt := 28) (pc' := 24) d_Relation_hasCell_21 rfl rfl (fun c21 => ?_) (fun c21 => ?_)
        · refine VW.iconst (pc' := 29) d_Relation_hasCell_28 rfl (by decide) ?_
          exact VW.iret d_Relation_hasCell_29 rfl rfl (Nat.zero_le _) (Nat.zero_le _) (by first | (rw [bI1 (by omega)]; exact ex_rf) | (rw [bI0 (by omega)]; exact ex_rf))
        · refine VW.iconst (pc' := 25) d_Relation_hasCell_24 rfl (by decide) ?_
          refine VW.goto (pc' := 29) d_Relation_hasCell_25 rfl ?_
          exact VW.iret d_Relation_hasCell_29 rfl rfl (Nat.zero_le _) (Nat.zero_le _) (by first | (rw [bI1 (by omega)]; exact ex_rf) | (rw [bI0 (by omega)]; exact ex_rf))
theorem sp_Relation_reset {e c n : Nat} {a : Int} (hG : ReW K P e c n) : Sp m_Relation_reset false (rmv 0 0) (ex K P J (up2 (up2 I e 1 0) e 2 a) (.inl none)) K P J I [vR (some e), vI a] := by
  refine Sp.ofV (by decide) (Or.inr rfl) rfl ?_
  refine VW.aload_n (pc' := 1) d_Relation_reset_0 rfl rfl ?_
  refine VW.iconst (pc' := 2) d_Relation_reset_1 rfl (by decide) ?_
  refine VW.pI (ci := 5) (T := T5) (N := 3) (k := 1) (k' := 1) (ty := ty5) (pc' := 5) d_Relation_reset_2 rfl lk_Relation_15 in5 tk5 nm5 rfl rfl rfl rfl rfl rfl (by first | exact hG.1 | exact hG.2.2) ?_
  refine VW.aload_n (pc' := 6) d_Relation_reset_5 rfl rfl ?_
  refine VW.iload_n (pc' := 7) d_Relation_reset_6 rfl rfl ?_
  refine VW.pI (ci := 5) (T := T5) (N := 3) (k := 2) (k' := 2) (ty := ty5) (pc' := 10) d_Relation_reset_7 rfl lk_Relation_19 in5 tk5 nm5 rfl rfl rfl rfl rfl rfl (by first | exact hG.1 | exact hG.2.2) ?_
  exact VW.vret d_Relation_reset_10 rfl (Nat.zero_le _) (Nat.zero_le _) ex_rf
end
