section
variable {K : KT} {P : PT} {J I : IT}
/-- the schema s: widths w, counts of checks c, checks d, targets t, rules r, veils v -/
def ScW (K : KT) (P : PT) (s w c d t r v : Nat) : Prop := K s = some (7, 0) ∧ (P s 1 = some w ∧ K w = some (100, 6)) ∧ (P s 2 = some c ∧ K c = some (100, 6)) ∧ (P s 3 = some d ∧ K d = some (100, 72)) ∧ (P s 4 = some t ∧ K t = some (100, 24)) ∧ (P s 5 = some r ∧ K r = some (100, 24)) ∧ (P s 7 = some v ∧ K v = some (100, 60))
noncomputable def scRef (I : IT) (w t : Nat) (a b : Int) : Int := bI (∃ j : Int, 1 ≤ j ∧ j < I w a ∧ I t (a * 4 + j) = b)
theorem sp_Schema_hasTable {s w c d t r v : Nat} {a : Int} (hG : ScW K P s w c d t r v)  : Sp m_Schema_hasTable false (rmv 0 0) (ex K P J I (.inl (some (vI (bI (0 ≤ a ∧ a < I s 0)))))) K P J I [vR (some s), vI a] := by
  refine Sp.ofV (by decide) (Or.inr rfl) rfl ?_
  refine VW.iload_n (pc' := 1) d_Schema_hasTable_0 rfl rfl ?_
  refine VW.if_lt (tgt := 16) (pc' := 4) d_Schema_hasTable_1 rfl rfl (fun c1 => ?_) (fun c1 => ?_)
  · refine VW.iconst (pc' := 17) d_Schema_hasTable_16 rfl (by decide) ?_
    exact VW.iret d_Schema_hasTable_17 rfl rfl (Nat.zero_le _) (Nat.zero_le _) (by first | (rw [bI1 (by omega)]; exact ex_rf) | (rw [bI0 (by omega)]; exact ex_rf))
  · refine VW.iload_n (pc' := 5) d_Schema_hasTable_4 rfl rfl ?_
    refine VW.aload_n (pc' := 6) d_Schema_hasTable_5 rfl rfl ?_
    refine VW.gI (ci := 7) (T := T7) (N := 8) (k := 0) (k' := 0) (pc' := 9) d_Schema_hasTable_6 rfl lk_Schema_36 in7 rfl rfl rfl rfl (by first | exact hG.1 | exact hG.2.1.2 | exact hG.2.2.1.2 | exact hG.2.2.2.1.2 | exact hG.2.2.2.2.1.2 | exact hG.2.2.2.2.2.1.2 | exact hG.2.2.2.2.2.2.2) (by first | exact hG.2.1.1 | exact hG.2.2.1.1 | exact hG.2.2.2.1.1 | exact hG.2.2.2.2.1.1 | exact hG.2.2.2.2.2.1.1 | exact hG.2.2.2.2.2.2.1 | rfl) ?_
    refine VW.icmp_ge (tgt := 16) (pc' := 12) d_Schema_hasTable_9 rfl rfl (fun c9 => ?_) (fun c9 => ?_)
    · refine VW.iconst (pc' := 17) d_Schema_hasTable_16 rfl (by decide) ?_
      exact VW.iret d_Schema_hasTable_17 rfl rfl (Nat.zero_le _) (Nat.zero_le _) (by first | (rw [bI1 (by omega)]; exact ex_rf) | (rw [bI0 (by omega)]; exact ex_rf))
    · refine VW.iconst (pc' := 13) d_Schema_hasTable_12 rfl (by decide) ?_
      refine VW.goto (pc' := 17) d_Schema_hasTable_13 rfl ?_
      exact VW.iret d_Schema_hasTable_17 rfl rfl (Nat.zero_le _) (Nat.zero_le _) (by first | (rw [bI1 (by omega)]; exact ex_rf) | (rw [bI0 (by omega)]; exact ex_rf))
theorem sp_Schema_hasColumn {s w c d t r v : Nat} {a b : Int} (hG : ScW K P s w c d t r v) (h6 : I s 0 ≤ 6) : Sp m_Schema_hasColumn false (rmv 1 21) (ex K P J I (.inl (some (vI (bI ((0 ≤ a ∧ a < I s 0) ∧ 0 ≤ b ∧ b < I w a)))))) K P J I [vR (some s), vI a, vI b] := by
  refine Sp.ofV (by decide) (Or.inr rfl) rfl ?_
  refine VW.aload_n (pc' := 1) d_Schema_hasColumn_0 rfl rfl ?_
  refine VW.iload_n (pc' := 2) d_Schema_hasColumn_1 rfl rfl ?_
  refine VW.cV (ci := 7) (T := T7) (N := 8) (pc' := 5) d_Schema_hasColumn_2 rfl mv_Schema_hasTable lk_Schema_40 rfl (by first | exact hG.1 | exact hG.2.1.2 | exact hG.2.2.1.2 | exact hG.2.2.2.1.2 | exact hG.2.2.2.2.1.2 | exact hG.2.2.2.2.2.1.2 | exact hG.2.2.2.2.2.2.2) rfl rfl rfl (Nat.le_refl _) (Nat.le_refl _) (sp_Schema_hasTable hG) rfl rfl ?_
  refine VW.if_eq (tgt := 26) (pc' := 8) d_Schema_hasColumn_5 rfl rfl (fun c5 => ?_) (fun c5 => ?_)
  · try have e5 := bIe c5
    refine VW.iconst (pc' := 27) d_Schema_hasColumn_26 rfl (by decide) ?_
    exact VW.iret d_Schema_hasColumn_27 rfl rfl (Nat.zero_le _) (Nat.zero_le _) (by first | (rw [bI1 (by omega)]; exact ex_rf) | (rw [bI0 (by omega)]; exact ex_rf))
  · try have e5 := bIn c5
    refine VW.iload_n (pc' := 9) d_Schema_hasColumn_8 rfl rfl ?_
    refine VW.if_lt (tgt := 26) (pc' := 12) d_Schema_hasColumn_9 rfl rfl (fun c9 => ?_) (fun c9 => ?_)
    · refine VW.iconst (pc' := 27) d_Schema_hasColumn_26 rfl (by decide) ?_
      exact VW.iret d_Schema_hasColumn_27 rfl rfl (Nat.zero_le _) (Nat.zero_le _) (by first | (rw [bI1 (by omega)]; exact ex_rf) | (rw [bI0 (by omega)]; exact ex_rf))
    · refine VW.iload_n (pc' := 13) d_Schema_hasColumn_12 rfl rfl ?_
      refine VW.aload_n (pc' := 14) d_Schema_hasColumn_13 rfl rfl ?_
      refine VW.gP (ci := 7) (T := T7) (N := 8) (k := 1) (k' := 1) (pc' := 17) d_Schema_hasColumn_14 rfl lk_Schema_9 in7 rfl rfl rfl rfl (by first | exact hG.1 | exact hG.2.1.2 | exact hG.2.2.1.2 | exact hG.2.2.2.1.2 | exact hG.2.2.2.2.1.2 | exact hG.2.2.2.2.2.1.2 | exact hG.2.2.2.2.2.2.2) (by first | exact hG.2.1.1 | exact hG.2.2.1.1 | exact hG.2.2.2.1.1 | exact hG.2.2.2.2.1.1 | exact hG.2.2.2.2.2.1.1 | exact hG.2.2.2.2.2.2.1 | rfl) ?_
      refine VW.iload_n (pc' := 18) d_Schema_hasColumn_17 rfl rfl ?_
      refine VW.ild (pc' := 19) d_Schema_hasColumn_18 rfl (by first | exact hG.1 | exact hG.2.1.2 | exact hG.2.2.1.2 | exact hG.2.2.2.1.2 | exact hG.2.2.2.2.1.2 | exact hG.2.2.2.2.2.1.2 | exact hG.2.2.2.2.2.2.2) (by omega) (by omega) (by first | exact hG.2.1.1 | exact hG.2.2.1.1 | exact hG.2.2.2.1.1 | exact hG.2.2.2.2.1.1 | exact hG.2.2.2.2.2.1.1 | exact hG.2.2.2.2.2.2.1 | rfl) ?_
      refine VW.icmp_ge (tgt := 26) (pc' := 22) d_Schema_hasColumn_19 rfl rfl (fun c19 => ?_) (fun c19 => ?_)
      · refine VW.iconst (pc' := 27) d_Schema_hasColumn_26 rfl (by decide) ?_
        exact VW.iret d_Schema_hasColumn_27 rfl rfl (Nat.zero_le _) (Nat.zero_le _) (by first | (rw [bI1 (by omega)]; exact ex_rf) | (rw [bI0 (by omega)]; exact ex_rf))
      · refine VW.iconst (pc' := 23) d_Schema_hasColumn_22 rfl (by decide) ?_
        refine VW.goto (pc' := 27) d_Schema_hasColumn_23 rfl ?_
        exact VW.iret d_Schema_hasColumn_27 rfl rfl (Nat.zero_le _) (Nat.zero_le _) (by first | (rw [bI1 (by omega)]; exact ex_rf) | (rw [bI0 (by omega)]; exact ex_rf))
theorem sp_Schema_target {s w c d t r v : Nat} {a b : Int} (hG : ScW K P s w c d t r v) (ha : 0 ≤ a ∧ a < 6) (hb : 0 ≤ b ∧ b < 4) : Sp m_Schema_target false (rmv 0 0) (ex K P J I (.inl (some (vI (I t (a * 4 + b)))))) K P J I [vR (some s), vI a, vI b] := by
  refine Sp.ofV (by decide) (Or.inr rfl) rfl ?_
  refine VW.aload_n (pc' := 1) d_Schema_target_0 rfl rfl ?_
  refine VW.gP (ci := 7) (T := T7) (N := 8) (k := 4) (k' := 4) (pc' := 4) d_Schema_target_1 rfl lk_Schema_21 in7 rfl rfl rfl rfl (by first | exact hG.1 | exact hG.2.1.2 | exact hG.2.2.1.2 | exact hG.2.2.2.1.2 | exact hG.2.2.2.2.1.2 | exact hG.2.2.2.2.2.1.2 | exact hG.2.2.2.2.2.2.2) (by first | exact hG.2.1.1 | exact hG.2.2.1.1 | exact hG.2.2.2.1.1 | exact hG.2.2.2.2.1.1 | exact hG.2.2.2.2.2.1.1 | exact hG.2.2.2.2.2.2.1 | rfl) ?_
  refine VW.iload_n (pc' := 5) d_Schema_target_4 rfl rfl ?_
  refine VW.iconst (pc' := 6) d_Schema_target_5 rfl (by decide) ?_
  refine VW.imul (pc' := 7) d_Schema_target_6 rfl (by omega) ?_
  refine VW.iload_n (pc' := 8) d_Schema_target_7 rfl rfl ?_
  refine VW.iadd (pc' := 9) d_Schema_target_8 rfl (by omega) ?_
  refine VW.ild (pc' := 10) d_Schema_target_9 rfl (by first | exact hG.1 | exact hG.2.1.2 | exact hG.2.2.1.2 | exact hG.2.2.2.1.2 | exact hG.2.2.2.2.1.2 | exact hG.2.2.2.2.2.1.2 | exact hG.2.2.2.2.2.2.2) (by omega) (by omega) (by first | exact hG.2.1.1 | exact hG.2.2.1.1 | exact hG.2.2.2.1.1 | exact hG.2.2.2.2.1.1 | exact hG.2.2.2.2.2.1.1 | exact hG.2.2.2.2.2.2.1 | rfl) ?_
  exact VW.iret d_Schema_target_10 rfl rfl (Nat.zero_le _) (Nat.zero_le _) ex_rf
theorem sp_Schema_refersTo {s w c d t r v : Nat} {a b : Int} (hG : ScW K P s w c d t r v) (ha : 0 ≤ a ∧ a < 6) (hw : 1 ≤ I w a ∧ I w a ≤ 4) : Sp m_Schema_refersTo false (rmv 1 22) (ex K P J I (.inl (some (vI (scRef I w t a b))))) K P J I [vR (some s), vI a, vI b] := by
  refine Sp.ofV (by decide) (Or.inr rfl) rfl ?_
  have loop : ∀ (l : Nat) (j : Int), j + l = I w a → 1 ≤ j → (∀ q : Int, 1 ≤ q → q < j → ¬ I t (a * 4 + q) = b) → VW m_Schema_refersTo false (rmv 1 22) (ex K P J I (.inl (some (vI (scRef I w t a b))))) K P J I 0 0 2 [(0, vR (some s)), (1, vI a), (2, vI b), (3, vI j)] [] := by
    intro l
    induction l with
    | zero =>
      intro j hj h0 hn
      have e : scRef I w t a b = 0 := bI0 (fun ⟨q, q0, q1, q2⟩ => hn q q0 (by omega) q2)
      refine VW.iload_n (pc' := 3) d_Schema_refersTo_2 rfl rfl ?_
      refine VW.aload_n (pc' := 4) d_Schema_refersTo_3 rfl rfl ?_
      refine VW.gP (ci := 7) (T := T7) (N := 8) (k := 1) (k' := 1) (pc' := 7) d_Schema_refersTo_4 rfl lk_Schema_9 in7 rfl rfl rfl rfl (by first | exact hG.1 | exact hG.2.1.2 | exact hG.2.2.1.2 | exact hG.2.2.2.1.2 | exact hG.2.2.2.2.1.2 | exact hG.2.2.2.2.2.1.2 | exact hG.2.2.2.2.2.2.2) (by first | exact hG.2.1.1 | exact hG.2.2.1.1 | exact hG.2.2.2.1.1 | exact hG.2.2.2.2.1.1 | exact hG.2.2.2.2.2.1.1 | exact hG.2.2.2.2.2.2.1 | rfl) ?_
      refine VW.iload_n (pc' := 8) d_Schema_refersTo_7 rfl rfl ?_
      refine VW.ild (pc' := 9) d_Schema_refersTo_8 rfl (by first | exact hG.1 | exact hG.2.1.2 | exact hG.2.2.1.2 | exact hG.2.2.2.1.2 | exact hG.2.2.2.2.1.2 | exact hG.2.2.2.2.2.1.2 | exact hG.2.2.2.2.2.2.2) (by omega) (by omega) (by first | exact hG.2.1.1 | exact hG.2.2.1.1 | exact hG.2.2.2.1.1 | exact hG.2.2.2.2.1.1 | exact hG.2.2.2.2.2.1.1 | exact hG.2.2.2.2.2.2.1 | rfl) ?_
      refine VW.icmp_ge (tgt := 30) (pc' := 12) d_Schema_refersTo_9 rfl rfl (fun c9 => ?_) (fun c9 => ?_)
      · refine VW.iconst (pc' := 31) d_Schema_refersTo_30 rfl (by decide) ?_
        exact VW.iret d_Schema_refersTo_31 rfl rfl (Nat.zero_le _) (Nat.zero_le _) (by rw [e]; exact ex_rf)
      · exfalso; omega
    | succ l ih =>
      intro j hj h0 hn
      have nx := fun (z : ¬ I t (a * 4 + j) = b) => ih (j + 1) (by omega) (by omega) (fun q q0 q1 => by
        by_cases e : q = j
        · rw [e]; exact z
        · exact hn q q0 (by omega))
      have e : I t (a * 4 + j) = b → scRef I w t a b = 1 := fun z => bI1 ⟨j, h0, by omega, z⟩
      clear ih hn
      refine VW.iload_n (pc' := 3) d_Schema_refersTo_2 rfl rfl ?_
      refine VW.aload_n (pc' := 4) d_Schema_refersTo_3 rfl rfl ?_
      refine VW.gP (ci := 7) (T := T7) (N := 8) (k := 1) (k' := 1) (pc' := 7) d_Schema_refersTo_4 rfl lk_Schema_9 in7 rfl rfl rfl rfl (by first | exact hG.1 | exact hG.2.1.2 | exact hG.2.2.1.2 | exact hG.2.2.2.1.2 | exact hG.2.2.2.2.1.2 | exact hG.2.2.2.2.2.1.2 | exact hG.2.2.2.2.2.2.2) (by first | exact hG.2.1.1 | exact hG.2.2.1.1 | exact hG.2.2.2.1.1 | exact hG.2.2.2.2.1.1 | exact hG.2.2.2.2.2.1.1 | exact hG.2.2.2.2.2.2.1 | rfl) ?_
      refine VW.iload_n (pc' := 8) d_Schema_refersTo_7 rfl rfl ?_
      refine VW.ild (pc' := 9) d_Schema_refersTo_8 rfl (by first | exact hG.1 | exact hG.2.1.2 | exact hG.2.2.1.2 | exact hG.2.2.2.1.2 | exact hG.2.2.2.2.1.2 | exact hG.2.2.2.2.2.1.2 | exact hG.2.2.2.2.2.2.2) (by omega) (by omega) (by first | exact hG.2.1.1 | exact hG.2.2.1.1 | exact hG.2.2.2.1.1 | exact hG.2.2.2.2.1.1 | exact hG.2.2.2.2.2.1.1 | exact hG.2.2.2.2.2.2.1 | rfl) ?_
      refine VW.icmp_ge (tgt := 30) (pc' := 12) d_Schema_refersTo_9 rfl rfl (fun c9 => ?_) (fun c9 => ?_)
      · exfalso; omega
      · refine VW.aload_n (pc' := 13) d_Schema_refersTo_12 rfl rfl ?_
        refine VW.iload_n (pc' := 14) d_Schema_refersTo_13 rfl rfl ?_
        refine VW.iload_n (pc' := 15) d_Schema_refersTo_14 rfl rfl ?_
        refine VW.cV (ci := 7) (T := T7) (N := 8) (pc' := 18) d_Schema_refersTo_15 rfl mv_Schema_target lk_Schema_47 rfl (by first | exact hG.1 | exact hG.2.1.2 | exact hG.2.2.1.2 | exact hG.2.2.2.1.2 | exact hG.2.2.2.2.1.2 | exact hG.2.2.2.2.2.1.2 | exact hG.2.2.2.2.2.2.2) rfl rfl rfl (Nat.le_refl _) (Nat.le_refl _) (sp_Schema_target hG ha (by omega)) rfl rfl ?_
        refine VW.iload_n (pc' := 19) d_Schema_refersTo_18 rfl rfl ?_
        refine VW.icmp_ne (tgt := 24) (pc' := 22) d_Schema_refersTo_19 rfl rfl (fun c19 => ?_) (fun c19 => ?_)
        · refine VW.iinc (pc' := 27) d_Schema_refersTo_24 rfl rfl rfl (by omega) ?_
          refine VW.goto (pc' := 2) d_Schema_refersTo_27 rfl ?_
          refine VW.nrm ?_
          exact nx c19
        · refine VW.iconst (pc' := 23) d_Schema_refersTo_22 rfl (by decide) ?_
          exact VW.iret d_Schema_refersTo_23 rfl rfl (Nat.zero_le _) (Nat.zero_le _) (by rw [e c19]; exact ex_rf)
  have l := loop (I w a - 1).toNat 1 (by omega) (Int.le_refl _) (fun q q0 q1 => by omega)
  clear loop
  refine VW.iconst (pc' := 1) d_Schema_refersTo_0 rfl (by decide) ?_
  refine VW.istore_n (pc' := 2) d_Schema_refersTo_1 rfl rfl ?_
  refine VW.nrm ?_
  exact l
theorem sp_Schema_addReference {s w c d t r v : Nat} {a b y z : Int} (hG : ScW K P s w c d t r v) (ha : 0 ≤ a ∧ a < 6) (hb : 0 ≤ b ∧ b < 4) : Sp m_Schema_addReference false (rmv 0 0) (ex K P J (up2 (up2 I t (a * 4 + b) y) r (a * 4 + b) z) (.inl none)) K P J I [vR (some s), vI a, vI b, vI y, vI z] := by
  refine Sp.ofV (by decide) (Or.inr rfl) rfl ?_
  refine VW.aload_n (pc' := 1) d_Schema_addReference_0 rfl rfl ?_
  refine VW.gP (ci := 7) (T := T7) (N := 8) (k := 4) (k' := 4) (pc' := 4) d_Schema_addReference_1 rfl lk_Schema_21 in7 rfl rfl rfl rfl (by first | exact hG.1 | exact hG.2.1.2 | exact hG.2.2.1.2 | exact hG.2.2.2.1.2 | exact hG.2.2.2.2.1.2 | exact hG.2.2.2.2.2.1.2 | exact hG.2.2.2.2.2.2.2) (by first | exact hG.2.1.1 | exact hG.2.2.1.1 | exact hG.2.2.2.1.1 | exact hG.2.2.2.2.1.1 | exact hG.2.2.2.2.2.1.1 | exact hG.2.2.2.2.2.2.1 | rfl) ?_
  refine VW.iload_n (pc' := 5) d_Schema_addReference_4 rfl rfl ?_
  refine VW.iconst (pc' := 6) d_Schema_addReference_5 rfl (by decide) ?_
  refine VW.imul (pc' := 7) d_Schema_addReference_6 rfl (by omega) ?_
  refine VW.iload_n (pc' := 8) d_Schema_addReference_7 rfl rfl ?_
  refine VW.iadd (pc' := 9) d_Schema_addReference_8 rfl (by omega) ?_
  refine VW.iload_n (pc' := 10) d_Schema_addReference_9 rfl rfl ?_
  refine VW.iast (pc' := 11) d_Schema_addReference_10 rfl (by first | exact hG.1 | exact hG.2.1.2 | exact hG.2.2.1.2 | exact hG.2.2.2.1.2 | exact hG.2.2.2.2.1.2 | exact hG.2.2.2.2.2.1.2 | exact hG.2.2.2.2.2.2.2) (by omega) (by omega) ?_
  refine VW.aload_n (pc' := 12) d_Schema_addReference_11 rfl rfl ?_
  refine VW.gP (ci := 7) (T := T7) (N := 8) (k := 5) (k' := 5) (pc' := 15) d_Schema_addReference_12 rfl lk_Schema_24 in7 rfl rfl rfl rfl (by first | exact hG.1 | exact hG.2.1.2 | exact hG.2.2.1.2 | exact hG.2.2.2.1.2 | exact hG.2.2.2.2.1.2 | exact hG.2.2.2.2.2.1.2 | exact hG.2.2.2.2.2.2.2) (by first | exact hG.2.1.1 | exact hG.2.2.1.1 | exact hG.2.2.2.1.1 | exact hG.2.2.2.2.1.1 | exact hG.2.2.2.2.2.1.1 | exact hG.2.2.2.2.2.2.1 | rfl) ?_
  refine VW.iload_n (pc' := 16) d_Schema_addReference_15 rfl rfl ?_
  refine VW.iconst (pc' := 17) d_Schema_addReference_16 rfl (by decide) ?_
  refine VW.imul (pc' := 18) d_Schema_addReference_17 rfl (by omega) ?_
  refine VW.iload_n (pc' := 19) d_Schema_addReference_18 rfl rfl ?_
  refine VW.iadd (pc' := 20) d_Schema_addReference_19 rfl (by omega) ?_
  refine VW.iload (pc' := 22) d_Schema_addReference_20 rfl rfl ?_
  refine VW.iast (pc' := 23) d_Schema_addReference_22 rfl (by first | exact hG.1 | exact hG.2.1.2 | exact hG.2.2.1.2 | exact hG.2.2.2.1.2 | exact hG.2.2.2.2.1.2 | exact hG.2.2.2.2.2.1.2 | exact hG.2.2.2.2.2.2.2) (by omega) (by omega) ?_
  exact VW.vret d_Schema_addReference_23 rfl (Nat.zero_le _) (Nat.zero_le _) ex_rf
end
