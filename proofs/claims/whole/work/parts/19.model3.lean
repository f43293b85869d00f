section
variable {K : KT} {P : PT} {J I : IT}
abbrev mUW (I : IT) : Prop := ∃ j, 0 ≤ j ∧ j < I 100 19 ∧ I 221 j < 2
abbrev mCOL (I : IT) (t c : Int) : Prop := 0 ≤ t ∧ t < I 100 0 ∧ 0 ≤ c ∧ c < I 201 t
/-- plans are dropped -/
def mTP (I : IT) : IT := filI I 263 0 20 0
noncomputable def kTable (I : IT) (c : Int) : Int := @ite Int (1 ≤ c ∧ c ≤ 4) (Classical.propDecidable _) (if I 100 0 = 6 then 2 else @ite Int (mUW I) (Classical.propDecidable _) 2 0) 1
noncomputable def mTable (I : IT) (c : Int) : Int × IT := if 0 < kTable I c then (0, up2 I 100 93 (kTable I c)) else (I 100 0, mTP (up2 (up2 (up2 I 100 93 0) 201 (I 100 0) c) 100 0 (I 100 0 + 1)))
theorem sp_Model_table {c : Int} (hM : MW K P) (h0 : 0 ≤ I 100 0 ∧ I 100 0 ≤ 6) (h1 : 0 ≤ I 100 19 ∧ I 100 19 ≤ 60) : Sp m_Model_table false (rmv 2 45) (ex K P J (mTable I c).2 (.inl (some (vI (mTable I c).1)))) K P J I [vR (some 100), vI c] := by
  refine Sp.ofV (by decide) (Or.inr rfl) rfl ?_
  have J : ∀ z, z = kTable I c → VW m_Model_table false (rmv 2 45) (ex K P J (mTable I c).2 (.inl (some (vI (mTable I c).1)))) K P J I 0 0 35 [(0, vR (some 100)), (1, vI c)] [vI z, vR (some 100)] := by
    intro z hz
    have hk : kTable I c = 0 → I 100 0 < 6 := by
      intro h
      unfold kTable at h
      by_cases h2 : 1 ≤ c ∧ c ≤ 4
      · rw [if_pos h2] at h
        by_cases h3 : I 100 0 = 6
        · rw [if_pos h3] at h; cases h
        · omega
      · rw [if_neg h2] at h; cases h
    refine VW.cV (ci := 11) (T := T11) (N := 94) (pc' := 38) d_Model_table_35 rfl mv_Model_fails lk_Model_254 rfl (hM.k rfl) rfl rfl rfl (Nat.le_refl _) (Nat.le_refl _) (sp_Model_fails hM) rfl rfl ?_
    refine VW.if_eq (tgt := 43) (pc' := 41) d_Model_table_38 rfl rfl (fun c38 => ?_) (fun c38 => ?_)
    · try have e38 := bIe c38
      subst hz
      have d := hk (by have : 0 ≤ kTable I c := by unfold kTable; split; split; omega; split; omega; omega; omega
               omega)
      refine VW.aload_n (pc' := 44) d_Model_table_43 rfl rfl ?_
      refine VW.gP (ci := 11) (T := T11) (N := 94) (k := 1) (k' := 1) (pc' := 47) d_Model_table_44 rfl lk_Model_7 in11 rfl rfl rfl rfl (hM.k rfl) (hM.p (r := some 201) 1 rfl rfl) ?_
      refine VW.aload_n (pc' := 48) d_Model_table_47 rfl rfl ?_
      refine VW.gI (ci := 11) (T := T11) (N := 94) (k := 0) (k' := 0) (pc' := 51) d_Model_table_48 rfl lk_Model_239 in11 rfl rfl rfl rfl (hM.k rfl) (by first | assumption | (simp [up2] <;> rfl) | rfl) ?_
      refine VW.iload_n (pc' := 52) d_Model_table_51 rfl rfl ?_
      refine VW.iast (pc' := 53) d_Model_table_52 rfl (hM.k rfl) (by omega) (by omega) ?_
      refine VW.aload_n (pc' := 54) d_Model_table_53 rfl rfl ?_
      refine VW.dup (pc' := 55) d_Model_table_54 rfl rfl ?_
      refine VW.gI (ci := 11) (T := T11) (N := 94) (k := 0) (k' := 0) (pc' := 58) d_Model_table_55 rfl lk_Model_239 in11 rfl rfl rfl rfl (hM.k rfl) (by first | assumption | (simp [up2] <;> rfl) | rfl) ?_
      refine VW.iconst (pc' := 59) d_Model_table_58 rfl (by decide) ?_
      refine VW.iadd (pc' := 60) d_Model_table_59 rfl (by omega) ?_
      refine VW.pI (ci := 11) (T := T11) (N := 94) (k := 0) (k' := 0) (ty := ty11) (pc' := 63) d_Model_table_60 rfl lk_Model_239 in11 tk11 nm11 rfl rfl rfl rfl rfl rfl (hM.k rfl) ?_
      refine VW.aload_n (pc' := 64) d_Model_table_63 rfl rfl ?_
      refine VW.cV (ci := 11) (T := T11) (N := 94) (pc' := 67) d_Model_table_64 rfl mv_Model_throwsPlans lk_Model_257 rfl (hM.k rfl) rfl rfl rfl (Nat.le_refl _) (Nat.le_refl _) (sp_Model_throwsPlans hM) rfl rfl ?_
      refine VW.aload_n (pc' := 68) d_Model_table_67 rfl rfl ?_
      refine VW.gI (ci := 11) (T := T11) (N := 94) (k := 0) (k' := 0) (pc' := 71) d_Model_table_68 rfl lk_Model_239 in11 rfl rfl rfl rfl (hM.k rfl) (by first | assumption | (simp [up2] <;> rfl) | rfl) ?_
      refine VW.iconst (pc' := 72) d_Model_table_71 rfl (by decide) ?_
      refine VW.isub (pc' := 73) d_Model_table_72 rfl (by omega) ?_
      exact VW.iret d_Model_table_73 rfl rfl (Nat.zero_le _) (Nat.zero_le _) (by rw [show mTable I c = _ from if_neg e38]; sorry)
    · try have e38 := bIn c38
      subst hz
      refine VW.iconst (pc' := 42) d_Model_table_41 rfl (by decide) ?_
      exact VW.iret d_Model_table_42 rfl rfl (Nat.zero_le _) (Nat.zero_le _) (by rw [show mTable I c = _ from if_pos e38]; exact ex_rf)
  refine VW.aload_n (pc' := 1) d_Model_table_0 rfl rfl ?_
  refine VW.iload_n (pc' := 2) d_Model_table_1 rfl rfl ?_
  refine VW.iconst (pc' := 3) d_Model_table_2 rfl (by decide) ?_
  refine VW.iconst (pc' := 4) d_Model_table_3 rfl (by decide) ?_
  refine VW.cS (pc' := 7) d_Model_table_4 rfl ms_Model_isIn lk_Model_235 rfl rfl rfl (Nat.le_refl _) (Nat.le_refl _) (sp_Model_isIn) rfl rfl ?_
  refine VW.if_ne (tgt := 14) (pc' := 10) d_Model_table_7 rfl rfl (fun c7 => ?_) (fun c7 => ?_)
  · try have e7 := bIn c7
    refine VW.aload_n (pc' := 15) d_Model_table_14 rfl rfl ?_
    refine VW.gI (ci := 11) (T := T11) (N := 94) (k := 0) (k' := 0) (pc' := 18) d_Model_table_15 rfl lk_Model_239 in11 rfl rfl rfl rfl (hM.k rfl) (by first | assumption | (simp [up2] <;> rfl) | rfl) ?_
    refine VW.bipush (pc' := 20) d_Model_table_18 rfl (by decide) ?_
    refine VW.icmp_eq (tgt := 30) (pc' := 23) d_Model_table_20 rfl rfl (fun c20 => ?_) (fun c20 => ?_)
    · refine VW.iconst (pc' := 31) d_Model_table_30 rfl (by decide) ?_
      refine VW.goto (pc' := 35) d_Model_table_31 rfl ?_
      refine VW.pick [0, 1] ?_
      exact J _ (by unfold kTable; repeat (first | rw [if_pos (by first | assumption | omega)] | rw [if_neg (by first | assumption | omega)]))
    · refine VW.aload_n (pc' := 24) d_Model_table_23 rfl rfl ?_
      refine VW.cV (ci := 11) (T := T11) (N := 94) (pc' := 27) d_Model_table_24 rfl mv_Model_isUnderWay lk_Model_250 rfl (hM.k rfl) rfl rfl rfl (Nat.le_refl _) (Nat.le_refl _) (sp_Model_isUnderWay hM (by omega) (by omega)) rfl rfl ?_
      refine VW.if_eq (tgt := 34) (pc' := 30) d_Model_table_27 rfl rfl (fun c27 => ?_) (fun c27 => ?_)
      · try have e27 := bIe c27
        refine VW.iconst (pc' := 35) d_Model_table_34 rfl (by decide) ?_
        refine VW.pick [0, 1] ?_
        exact J _ (by unfold kTable; repeat (first | rw [if_pos (by first | assumption | omega)] | rw [if_neg (by first | assumption | omega)]))
      · try have e27 := bIn c27
        refine VW.iconst (pc' := 31) d_Model_table_30 rfl (by decide) ?_
        refine VW.goto (pc' := 35) d_Model_table_31 rfl ?_
        refine VW.pick [0, 1] ?_
        exact J _ (by unfold kTable; repeat (first | rw [if_pos (by first | assumption | omega)] | rw [if_neg (by first | assumption | omega)]))
  · try have e7 := bIe c7
    refine VW.iconst (pc' := 11) d_Model_table_10 rfl (by decide) ?_
    refine VW.goto (pc' := 35) d_Model_table_11 rfl ?_
    refine VW.pick [0, 1] ?_
    exact J _ (by unfold kTable; repeat (first | rw [if_pos (by first | assumption | omega)] | rw [if_neg (by first | assumption | omega)]))
end
