section
variable {K : KT} {P : PT} {J I : IT}
/-- a call of the reference: z tells whether it throws, f what it does if not -/
noncomputable def callR (z : Int) (I : IT) (f : IT → IT × Int) : IT × Int := if 0 < z then (up2 I 100 93 z, 0) else f (up2 I 100 93 z)
theorem callR_1 {z : Int} {f : IT → IT × Int} (h : 0 < z) : callR z I f = (up2 I 100 93 z, 0) := if_pos h
theorem callR_0 {z : Int} {f : IT → IT × Int} (h : ¬ 0 < z) : callR z I f = f (up2 I 100 93 z) := if_neg h
theorem ex_r {R : IT × Int} {v : Int} (h : R = (I, v)) : ex K P J R.1 (.inl (some (vI R.2))) (.inl (some (vI v))) K P J I := by rw [h]; exact ex_rf
theorem ex_r0 {R : IT × Int} {v : Int} (h : R = (I, v)) : ex K P J R.1 (.inl none) (.inl none) K P J I := by rw [h]; exact ex_rf
theorem filI_fr {a o : Nat} {lo hi v k : Int} (h : o ≠ a) : filI I a lo hi v o k = I o k := if_neg (fun z => h z.1)
/-- a transaction is under way -/
def mUnder (I : IT) : Prop := ∃ j, 0 ≤ j ∧ j < I 100 19 ∧ I 221 j < 2
theorem sp_under (hM : MW K P) (hb : MB I) : Sp m_Model_isUnderWay false (rmv 0 0) (ex K P J I (.inl (some (vI (bI (mUnder I)))))) K P J I [vR (some 100)] := sp_Model_isUnderWay hM hb.trn.1 hb.trn.2
noncomputable def cd_Model_table (I : IT) (x : Int) : Int := if bI (1 ≤ x ∧ x ≤ 4) = 0 then 1 else if I 100 0 = 6 ∨ bI (mUnder I) ≠ 0 then 2 else 0
noncomputable def f_Model_table  (x : Int) (S : IT) : IT × Int := (filI (up2 (up2 S 201 (S 100 0) x) 100 0 (S 100 0 + 1)) 263 0 20 0, S 100 0 + 1 - 1)
noncomputable def r_Model_table  (I : IT) (x : Int) : IT × Int := callR (cd_Model_table I x) I (f_Model_table  x)
theorem sp_Model_table {x : Int} (hM : MW K P) (hb : MB I) : Sp m_Model_table false (rmv 1 22) (ex K P J (r_Model_table  I x).1 (.inl (some (vI (r_Model_table  I x).2)))) K P J I [vR (some 100), vI x] := by
  refine Sp.ofV (by decide) (Or.inr rfl) rfl ?_
  have rest : ∀ S : IT, (S = up2 I 100 93 0) → (cd_Model_table I x = 0) → ((I 100 0 ≠ 6)) → VW m_Model_table false (rmv 1 22) (ex K P J (f_Model_table  x S).1 (.inl (some (vI (f_Model_table  x S).2)))) K P J S 0 0 43 [(0, vR (some 100)), (1, vI x)] [] := by
    intro S eS hcd q
    have u : ∀ (o : Nat) (k : Int), (o ≠ 100 ∨ k ≠ 93) → S o k = I o k := fun o k h => by rw [eS]; exact if_neg (fun z => h.elim (fun y => y z.1) (fun y => y z.2))
    have b0 := hb.tab
    have u0 : 0 ≤ S 100 0 ∧ S 100 0 < 6 := by rw [u 100 0 (by decide)]; omega
    clear b0 u q
    refine VW.aload_n (pc' := 44) d_Model_table_43 rfl rfl ?_
    refine VW.gP (ci := 11) (T := T11) (N := 94) (k := 1) (k' := 1) (pc' := 47) d_Model_table_44 rfl lk_Model_7 in11 rfl rfl rfl rfl (hM.k rfl) (hM.p (r := some 201) 1 rfl rfl) ?_
    refine VW.aload_n (pc' := 48) d_Model_table_47 rfl rfl ?_
    refine VW.gI (ci := 11) (T := T11) (N := 94) (k := 0) (k' := 0) (pc' := 51) d_Model_table_48 rfl lk_Model_239 in11 rfl rfl rfl rfl (hM.k rfl) (by first | exact up2_eq _ _ _ _ | (simp [up2] <;> rfl) | rfl) ?_
    refine VW.iload_n (pc' := 52) d_Model_table_51 rfl rfl ?_
    refine VW.iast (pc' := 53) d_Model_table_52 rfl (hM.k rfl) (by omega) (by omega) ?_
    refine VW.aload_n (pc' := 54) d_Model_table_53 rfl rfl ?_
    refine VW.dup (pc' := 55) d_Model_table_54 rfl rfl ?_
    refine VW.gI (ci := 11) (T := T11) (N := 94) (k := 0) (k' := 0) (pc' := 58) d_Model_table_55 rfl lk_Model_239 in11 rfl rfl rfl rfl (hM.k rfl) (by first | exact up2_eq _ _ _ _ | (simp [up2] <;> rfl) | rfl) ?_
    refine VW.iconst (pc' := 59) d_Model_table_58 rfl (by decide) ?_
    refine VW.iadd (pc' := 60) d_Model_table_59 rfl (by omega) ?_
    refine VW.pI (ci := 11) (T := T11) (N := 94) (k := 0) (k' := 0) (ty := ty11) (pc' := 63) d_Model_table_60 rfl lk_Model_239 in11 tk11 nm11 rfl rfl rfl rfl rfl rfl (hM.k rfl) ?_
    refine VW.aload_n (pc' := 64) d_Model_table_63 rfl rfl ?_
    refine VW.cV (ci := 11) (T := T11) (N := 94) (pc' := 67) d_Model_table_64 rfl mv_Model_throwsPlans lk_Model_257 rfl (hM.k rfl) rfl rfl rfl (Nat.le_refl _) (Nat.le_refl _) (sp_Model_throwsPlans hM) rfl rfl ?_
    refine VW.aload_n (pc' := 68) d_Model_table_67 rfl rfl ?_
    refine VW.gI (ci := 11) (T := T11) (N := 94) (k := 0) (k' := 0) (pc' := 71) d_Model_table_68 rfl lk_Model_239 in11 rfl rfl rfl rfl (hM.k rfl) (by exact (filI_fr (by decide)).trans (up2_eq _ _ _ _)) ?_
    refine VW.iconst (pc' := 72) d_Model_table_71 rfl (by decide) ?_
    refine VW.isub (pc' := 73) d_Model_table_72 rfl (by omega) ?_
    exact VW.iret d_Model_table_73 rfl rfl (Nat.zero_le _) (Nat.zero_le _) ex_rf
  have after : ∀ z : Int, z = cd_Model_table I x → VW m_Model_table false (rmv 1 22) (ex K P J (r_Model_table  I x).1 (.inl (some (vI (r_Model_table  I x).2)))) K P J (up2 I 100 93 z) 0 0 38 [(0, vR (some 100)), (1, vI x)] [vI (bI (0 < z))] := by
    intro z hz
    unfold r_Model_table
    rw [← hz]
    have q : ¬ 0 < z → (z = 0 ∧ ((I 100 0 ≠ 6))) := by
      intro h0
      have hz' := hz
      unfold cd_Model_table at hz'
      (repeat' split at hz') <;> first | (exfalso; omega) | (refine ⟨by omega, ?_⟩; first | trivial | omega)
    refine VW.if_eq (tgt := 43) (pc' := 41) d_Model_table_38 rfl rfl (fun c38 => ?_) (fun c38 => ?_)
    · try have e38 := bIe c38
      refine VW.nrm ?_
      rw [callR_0 e38]
      have qq := q e38
      have hz2 := hz.symm.trans qq.1
      rw [qq.1]
      exact rest _ rfl hz2 qq.2
    · try have e38 := bIn c38
      refine VW.iconst (pc' := 42) d_Model_table_41 rfl (by decide) ?_
      exact VW.iret d_Model_table_42 rfl rfl (Nat.zero_le _) (Nat.zero_le _) (ex_r (callR_1 e38))
  refine VW.aload_n (pc' := 1) d_Model_table_0 rfl rfl ?_
  refine VW.iload_n (pc' := 2) d_Model_table_1 rfl rfl ?_
  refine VW.iconst (pc' := 3) d_Model_table_2 rfl (by decide) ?_
  refine VW.iconst (pc' := 4) d_Model_table_3 rfl (by decide) ?_
  refine VW.cS (pc' := 7) d_Model_table_4 rfl ms_Model_isIn lk_Model_235 rfl rfl rfl (Nat.le_refl _) (Nat.le_refl _) (sp_Model_isIn) rfl rfl ?_
  refine VW.if_ne (tgt := 14) (pc' := 10) d_Model_table_7 rfl rfl (fun c7 => ?_) (fun c7 => ?_)
  · try have e7 := bIn c7
    refine VW.aload_n (pc' := 15) d_Model_table_14 rfl rfl ?_
    refine VW.gI (ci := 11) (T := T11) (N := 94) (k := 0) (k' := 0) (pc' := 18) d_Model_table_15 rfl lk_Model_239 in11 rfl rfl rfl rfl (hM.k rfl) (by first | assumption | (simp [up2] <;> rfl) | rfl) ?_
    refine VW.bipush (pc' := 20) d_Model_table_18 rfl (by decide) ?_
    refine VW.icmp_eq (tgt := 30) (pc' := 23) d_Model_table_20 rfl rfl (fun c20 => ?_) (fun c20 => ?_)
    · refine VW.iconst (pc' := 31) d_Model_table_30 rfl (by decide) ?_
      refine VW.goto (pc' := 35) d_Model_table_31 rfl ?_
      refine VW.cV (ci := 11) (T := T11) (N := 94) (pc' := 38) d_Model_table_35 rfl mv_Model_fails lk_Model_254 rfl (hM.k rfl) rfl rfl rfl (Nat.le_refl _) (Nat.le_refl _) (sp_Model_fails hM) rfl rfl ?_
      refine VW.pick [0, 1] ?_
      exact after _ (by unfold cd_Model_table; (repeat' split) <;> first | rfl | (exfalso; omega))
    · refine VW.aload_n (pc' := 24) d_Model_table_23 rfl rfl ?_
      refine VW.cV (ci := 11) (T := T11) (N := 94) (pc' := 27) d_Model_table_24 rfl mv_Model_isUnderWay lk_Model_250 rfl (hM.k rfl) rfl rfl rfl (Nat.le_refl _) (Nat.le_refl _) (sp_under hM hb) rfl rfl ?_
      refine VW.if_eq (tgt := 34) (pc' := 30) d_Model_table_27 rfl rfl (fun c27 => ?_) (fun c27 => ?_)
      · try have e27 := bIe c27
        refine VW.iconst (pc' := 35) d_Model_table_34 rfl (by decide) ?_
        refine VW.cV (ci := 11) (T := T11) (N := 94) (pc' := 38) d_Model_table_35 rfl mv_Model_fails lk_Model_254 rfl (hM.k rfl) rfl rfl rfl (Nat.le_refl _) (Nat.le_refl _) (sp_Model_fails hM) rfl rfl ?_
        refine VW.pick [0, 1] ?_
        exact after _ (by unfold cd_Model_table; (repeat' split) <;> first | rfl | (exfalso; omega))
      · try have e27 := bIn c27
        refine VW.iconst (pc' := 31) d_Model_table_30 rfl (by decide) ?_
        refine VW.goto (pc' := 35) d_Model_table_31 rfl ?_
        refine VW.cV (ci := 11) (T := T11) (N := 94) (pc' := 38) d_Model_table_35 rfl mv_Model_fails lk_Model_254 rfl (hM.k rfl) rfl rfl rfl (Nat.le_refl _) (Nat.le_refl _) (sp_Model_fails hM) rfl rfl ?_
        refine VW.pick [0, 1] ?_
        exact after _ (by unfold cd_Model_table; (repeat' split) <;> first | rfl | (exfalso; omega))
  · try have e7 := bIe c7
    refine VW.iconst (pc' := 11) d_Model_table_10 rfl (by decide) ?_
    refine VW.goto (pc' := 35) d_Model_table_11 rfl ?_
    refine VW.cV (ci := 11) (T := T11) (N := 94) (pc' := 38) d_Model_table_35 rfl mv_Model_fails lk_Model_254 rfl (hM.k rfl) rfl rfl rfl (Nat.le_refl _) (Nat.le_refl _) (sp_Model_fails hM) rfl rfl ?_
    refine VW.pick [0, 1] ?_
    exact after _ (by unfold cd_Model_table; (repeat' split) <;> first | rfl | (exfalso; omega))
noncomputable def cd_Model_check (I : IT) (t c w v : Int) : Int := if bI (0 ≤ t ∧ t < I 100 0 ∧ 0 ≤ c ∧ c < I 201 t) = 0 then 1 else if bI (0 ≤ w ∧ w ≤ 2) = 0 ∨ bI (-1000 ≤ v ∧ v ≤ 1000) = 0 then 2 else if I 202 t = 4 ∨ 0 < I 214 (24 + t) ∨ bI (mUnder I) ≠ 0 then 3 else 0
noncomputable def f_Model_check  (t c w v : Int) (S : IT) : IT × Int := (filI (up2 (up2 (up2 (up2 S 203 (4 * t + S 202 t) c) 204 (4 * t + S 202 t) w) 205 (4 * t + S 202 t) v) 202 t (S 202 t + 1)) 263 0 20 0, S 202 t + 1)
noncomputable def r_Model_check  (I : IT) (t c w v : Int) : IT × Int := callR (cd_Model_check I t c w v) I (f_Model_check  t c w v)
theorem sp_Model_check {t c w v : Int} (hM : MW K P) (hb : MB I) : Sp m_Model_check false (rmv 3 67) (ex K P J (r_Model_check  I t c w v).1 (.inl (some (vI (r_Model_check  I t c w v).2)))) K P J I [vR (some 100), vI t, vI c, vI w, vI v] := by
  refine Sp.ofV (by decide) (Or.inr rfl) rfl ?_
  have rest : ∀ a b : Int, ∀ S : IT, (S = up2 I 100 93 0) → (cd_Model_check I t c w v = 0) → ((I 202 t ≠ 4) ∧ (bI (0 ≤ t ∧ t < I 100 0 ∧ 0 ≤ c ∧ c < I 201 t) ≠ 0)) → VW m_Model_check false (rmv 3 67) (ex K P J (f_Model_check  t c w v S).1 (.inl (some (vI (f_Model_check  t c w v S).2)))) K P J S 0 0 91 [(0, vR (some 100)), (1, vI t), (2, vI c), (3, vI w), (4, vI v), (5, vI a), (6, vI b)] [] := by
    intro a b S eS hcd q
    have u : ∀ (o : Nat) (k : Int), (o ≠ 100 ∨ k ≠ 93) → S o k = I o k := fun o k h => by rw [eS]; exact if_neg (fun z => h.elim (fun y => y z.1) (fun y => y z.2))
    have q2 := bIn q.2
    have b0 := hb.tab
    have b1 := hb.chk t
    have u0 : 0 ≤ S 202 t ∧ S 202 t < 4 := by rw [u 202 t (Or.inl (by decide))]; omega
    clear u q
    refine VW.iconst (pc' := 92) d_Model_check_91 rfl (by decide) ?_
    refine VW.iload_n (pc' := 93) d_Model_check_92 rfl rfl ?_
    refine VW.imul (pc' := 94) d_Model_check_93 rfl (by omega) ?_
    refine VW.aload_n (pc' := 95) d_Model_check_94 rfl rfl ?_
    refine VW.gP (ci := 11) (T := T11) (N := 94) (k := 2) (k' := 2) (pc' := 98) d_Model_check_95 rfl lk_Model_13 in11 rfl rfl rfl rfl (hM.k rfl) (hM.p (r := some 202) 2 rfl rfl) ?_
    refine VW.iload_n (pc' := 99) d_Model_check_98 rfl rfl ?_
    refine VW.ild (pc' := 100) d_Model_check_99 rfl (hM.k rfl) (by omega) (by omega) (by first | exact up2_eq _ _ _ _ | (simp [up2] <;> rfl) | rfl) ?_
    refine VW.iadd (pc' := 101) d_Model_check_100 rfl (by omega) ?_
    refine VW.istore (pc' := 103) d_Model_check_101 rfl rfl ?_
    refine VW.aload_n (pc' := 104) d_Model_check_103 rfl rfl ?_
    refine VW.gP (ci := 11) (T := T11) (N := 94) (k := 3) (k' := 3) (pc' := 107) d_Model_check_104 rfl lk_Model_16 in11 rfl rfl rfl rfl (hM.k rfl) (hM.p (r := some 203) 3 rfl rfl) ?_
    refine VW.iload (pc' := 109) d_Model_check_107 rfl rfl ?_
    refine VW.iload_n (pc' := 110) d_Model_check_109 rfl rfl ?_
    refine VW.iast (pc' := 111) d_Model_check_110 rfl (hM.k rfl) (by omega) (by omega) ?_
    refine VW.aload_n (pc' := 112) d_Model_check_111 rfl rfl ?_
    refine VW.gP (ci := 11) (T := T11) (N := 94) (k := 4) (k' := 4) (pc' := 115) d_Model_check_112 rfl lk_Model_19 in11 rfl rfl rfl rfl (hM.k rfl) (hM.p (r := some 204) 4 rfl rfl) ?_
    refine VW.iload (pc' := 117) d_Model_check_115 rfl rfl ?_
    refine VW.iload_n (pc' := 118) d_Model_check_117 rfl rfl ?_
    refine VW.iast (pc' := 119) d_Model_check_118 rfl (hM.k rfl) (by omega) (by omega) ?_
    refine VW.aload_n (pc' := 120) d_Model_check_119 rfl rfl ?_
    refine VW.gP (ci := 11) (T := T11) (N := 94) (k := 5) (k' := 5) (pc' := 123) d_Model_check_120 rfl lk_Model_22 in11 rfl rfl rfl rfl (hM.k rfl) (hM.p (r := some 205) 5 rfl rfl) ?_
    refine VW.iload (pc' := 125) d_Model_check_123 rfl rfl ?_
    refine VW.iload (pc' := 127) d_Model_check_125 rfl rfl ?_
    refine VW.iast (pc' := 128) d_Model_check_127 rfl (hM.k rfl) (by omega) (by omega) ?_
    refine VW.aload_n (pc' := 129) d_Model_check_128 rfl rfl ?_
    refine VW.gP (ci := 11) (T := T11) (N := 94) (k := 2) (k' := 2) (pc' := 132) d_Model_check_129 rfl lk_Model_13 in11 rfl rfl rfl rfl (hM.k rfl) (hM.p (r := some 202) 2 rfl rfl) ?_
    refine VW.iload_n (pc' := 133) d_Model_check_132 rfl rfl ?_
    refine VW.dup2 (pc' := 134) d_Model_check_133 rfl rfl rfl ?_
    refine VW.ild (pc' := 135) d_Model_check_134 rfl (hM.k rfl) (by omega) (by omega) (by first | exact up2_eq _ _ _ _ | (simp [up2] <;> rfl) | rfl) ?_
    refine VW.iconst (pc' := 136) d_Model_check_135 rfl (by decide) ?_
    refine VW.iadd (pc' := 137) d_Model_check_136 rfl (by omega) ?_
    refine VW.iast (pc' := 138) d_Model_check_137 rfl (hM.k rfl) (by omega) (by omega) ?_
    refine VW.aload_n (pc' := 139) d_Model_check_138 rfl rfl ?_
    refine VW.cV (ci := 11) (T := T11) (N := 94) (pc' := 142) d_Model_check_139 rfl mv_Model_throwsPlans lk_Model_257 rfl (hM.k rfl) rfl rfl rfl (Nat.le_refl _) (Nat.le_refl _) (sp_Model_throwsPlans hM) rfl rfl ?_
    refine VW.aload_n (pc' := 143) d_Model_check_142 rfl rfl ?_
    refine VW.gP (ci := 11) (T := T11) (N := 94) (k := 2) (k' := 2) (pc' := 146) d_Model_check_143 rfl lk_Model_13 in11 rfl rfl rfl rfl (hM.k rfl) (hM.p (r := some 202) 2 rfl rfl) ?_
    refine VW.iload_n (pc' := 147) d_Model_check_146 rfl rfl ?_
    refine VW.ild (pc' := 148) d_Model_check_147 rfl (hM.k rfl) (by omega) (by omega) (by exact (filI_fr (by decide)).trans (up2_eq _ _ _ _)) ?_
    exact VW.iret d_Model_check_148 rfl rfl (Nat.zero_le _) (Nat.zero_le _) ex_rf
  have after : ∀ a b : Int, ∀ z : Int, z = cd_Model_check I t c w v → VW m_Model_check false (rmv 3 67) (ex K P J (r_Model_check  I t c w v).1 (.inl (some (vI (r_Model_check  I t c w v).2)))) K P J (up2 I 100 93 z) 0 0 86 [(0, vR (some 100)), (1, vI t), (2, vI c), (3, vI w), (4, vI v), (5, vI a), (6, vI b)] [vI (bI (0 < z))] := by
    intro a b z hz
    unfold r_Model_check
    rw [← hz]
    have q : ¬ 0 < z → (z = 0 ∧ ((I 202 t ≠ 4) ∧ (bI (0 ≤ t ∧ t < I 100 0 ∧ 0 ≤ c ∧ c < I 201 t) ≠ 0))) := by
      intro h0
      have hz' := hz
      unfold cd_Model_check at hz'
      (repeat' split at hz') <;> first | (exfalso; omega) | (refine ⟨by omega, ?_⟩; first | trivial | omega)
    refine VW.if_eq (tgt := 91) (pc' := 89) d_Model_check_86 rfl rfl (fun c86 => ?_) (fun c86 => ?_)
    · try have e86 := bIe c86
      refine VW.nrm ?_
      rw [callR_0 e86]
      have qq := q e86
      have hz2 := hz.symm.trans qq.1
      rw [qq.1]
      exact rest _ _ _ rfl hz2 qq.2
    · try have e86 := bIn c86
      refine VW.iconst (pc' := 90) d_Model_check_89 rfl (by decide) ?_
      exact VW.iret d_Model_check_90 rfl rfl (Nat.zero_le _) (Nat.zero_le _) (ex_r (callR_1 e86))
  have b0 := hb.tab
  have b1 := hb.chk t
  have b2 := hb.row (24 + t)
  have b3 := hb.trn
  refine VW.aload_n (pc' := 1) d_Model_check_0 rfl rfl ?_
  refine VW.iload_n (pc' := 2) d_Model_check_1 rfl rfl ?_
  refine VW.iload_n (pc' := 3) d_Model_check_2 rfl rfl ?_
  refine VW.cV (ci := 11) (T := T11) (N := 94) (pc' := 6) d_Model_check_3 rfl mv_Model_isColumn lk_Model_260 rfl (hM.k rfl) rfl rfl rfl (Nat.le_refl _) (Nat.le_refl _) (sp_Model_isColumn hM hb.tab.1 hb.tab.2 (fun t _ _ => (hb.col t).1)) rfl rfl ?_
  refine VW.istore (pc' := 8) d_Model_check_6 rfl rfl ?_
  refine VW.iload_n (pc' := 9) d_Model_check_8 rfl rfl ?_
  refine VW.cS (pc' := 12) d_Model_check_9 rfl ms_Model_isHow lk_Model_264 rfl rfl rfl (Nat.le_refl _) (Nat.le_refl _) (sp_Model_isHow) rfl rfl ?_
  refine VW.if_eq (tgt := 27) (pc' := 15) d_Model_check_12 rfl rfl (fun c12 => ?_) (fun c12 => ?_)
  · try have e12 := bIe c12
    refine VW.iconst (pc' := 28) d_Model_check_27 rfl (by decide) ?_
    refine VW.istore (pc' := 30) d_Model_check_28 rfl rfl ?_
    refine VW.aload_n (pc' := 31) d_Model_check_30 rfl rfl ?_
    refine VW.iload (pc' := 33) d_Model_check_31 rfl rfl ?_
    refine VW.if_ne (tgt := 40) (pc' := 36) d_Model_check_33 rfl rfl (fun c33 => ?_) (fun c33 => ?_)
    · try have e33 := bIn c33
      refine VW.iload (pc' := 42) d_Model_check_40 rfl rfl ?_
      refine VW.if_ne (tgt := 49) (pc' := 45) d_Model_check_42 rfl rfl (fun c42 => absurd c42 (by decide)) (fun _ => ?_)
      refine VW.iconst (pc' := 46) d_Model_check_45 rfl (by decide) ?_
      refine VW.goto (pc' := 83) d_Model_check_46 rfl ?_
      refine VW.cV (ci := 11) (T := T11) (N := 94) (pc' := 86) d_Model_check_83 rfl mv_Model_fails lk_Model_254 rfl (hM.k rfl) rfl rfl rfl (Nat.le_refl _) (Nat.le_refl _) (sp_Model_fails hM) rfl rfl ?_
      refine VW.pick [0, 1, 2, 3, 4, 5, 6] ?_
      exact after _ _ _ (by unfold cd_Model_check; (repeat' split) <;> first | rfl | (exfalso; omega))
    · try have e33 := bIe c33
      refine VW.iconst (pc' := 37) d_Model_check_36 rfl (by decide) ?_
      refine VW.goto (pc' := 83) d_Model_check_37 rfl ?_
      refine VW.cV (ci := 11) (T := T11) (N := 94) (pc' := 86) d_Model_check_83 rfl mv_Model_fails lk_Model_254 rfl (hM.k rfl) rfl rfl rfl (Nat.le_refl _) (Nat.le_refl _) (sp_Model_fails hM) rfl rfl ?_
      refine VW.pick [0, 1, 2, 3, 4, 5, 6] ?_
      exact after _ _ _ (by unfold cd_Model_check; (repeat' split) <;> first | rfl | (exfalso; omega))
  · try have e12 := bIn c12
    refine VW.iload (pc' := 17) d_Model_check_15 rfl rfl ?_
    refine VW.cS (pc' := 20) d_Model_check_17 rfl ms_Model_isValue lk_Model_267 rfl rfl rfl (Nat.le_refl _) (Nat.le_refl _) (sp_Model_isValue) rfl rfl ?_
    refine VW.if_eq (tgt := 27) (pc' := 23) d_Model_check_20 rfl rfl (fun c20 => ?_) (fun c20 => ?_)
    · try have e20 := bIe c20
      refine VW.iconst (pc' := 28) d_Model_check_27 rfl (by decide) ?_
      refine VW.istore (pc' := 30) d_Model_check_28 rfl rfl ?_
      refine VW.aload_n (pc' := 31) d_Model_check_30 rfl rfl ?_
      refine VW.iload (pc' := 33) d_Model_check_31 rfl rfl ?_
      refine VW.if_ne (tgt := 40) (pc' := 36) d_Model_check_33 rfl rfl (fun c33 => ?_) (fun c33 => ?_)
      · try have e33 := bIn c33
        refine VW.iload (pc' := 42) d_Model_check_40 rfl rfl ?_
        refine VW.if_ne (tgt := 49) (pc' := 45) d_Model_check_42 rfl rfl (fun c42 => absurd c42 (by decide)) (fun _ => ?_)
        refine VW.iconst (pc' := 46) d_Model_check_45 rfl (by decide) ?_
        refine VW.goto (pc' := 83) d_Model_check_46 rfl ?_
        refine VW.cV (ci := 11) (T := T11) (N := 94) (pc' := 86) d_Model_check_83 rfl mv_Model_fails lk_Model_254 rfl (hM.k rfl) rfl rfl rfl (Nat.le_refl _) (Nat.le_refl _) (sp_Model_fails hM) rfl rfl ?_
        refine VW.pick [0, 1, 2, 3, 4, 5, 6] ?_
        exact after _ _ _ (by unfold cd_Model_check; (repeat' split) <;> first | rfl | (exfalso; omega))
      · try have e33 := bIe c33
        refine VW.iconst (pc' := 37) d_Model_check_36 rfl (by decide) ?_
        refine VW.goto (pc' := 83) d_Model_check_37 rfl ?_
        refine VW.cV (ci := 11) (T := T11) (N := 94) (pc' := 86) d_Model_check_83 rfl mv_Model_fails lk_Model_254 rfl (hM.k rfl) rfl rfl rfl (Nat.le_refl _) (Nat.le_refl _) (sp_Model_fails hM) rfl rfl ?_
        refine VW.pick [0, 1, 2, 3, 4, 5, 6] ?_
        exact after _ _ _ (by unfold cd_Model_check; (repeat' split) <;> first | rfl | (exfalso; omega))
    · try have e20 := bIn c20
      refine VW.iconst (pc' := 24) d_Model_check_23 rfl (by decide) ?_
      refine VW.goto (pc' := 28) d_Model_check_24 rfl ?_
      refine VW.istore (pc' := 30) d_Model_check_28 rfl rfl ?_
      refine VW.aload_n (pc' := 31) d_Model_check_30 rfl rfl ?_
      refine VW.iload (pc' := 33) d_Model_check_31 rfl rfl ?_
      refine VW.if_ne (tgt := 40) (pc' := 36) d_Model_check_33 rfl rfl (fun c33 => ?_) (fun c33 => ?_)
      · try have e33 := bIn c33
        refine VW.iload (pc' := 42) d_Model_check_40 rfl rfl ?_
        refine VW.if_ne (tgt := 49) (pc' := 45) d_Model_check_42 rfl rfl (fun _ => ?_) (fun c42 => absurd c42 (by decide))
        have q2 := bIn c33
        refine VW.aload_n (pc' := 50) d_Model_check_49 rfl rfl ?_
        refine VW.gP (ci := 11) (T := T11) (N := 94) (k := 2) (k' := 2) (pc' := 53) d_Model_check_50 rfl lk_Model_13 in11 rfl rfl rfl rfl (hM.k rfl) (hM.p (r := some 202) 2 rfl rfl) ?_
        refine VW.iload_n (pc' := 54) d_Model_check_53 rfl rfl ?_
        refine VW.ild (pc' := 55) d_Model_check_54 rfl (hM.k rfl) (by omega) (by omega) (by first | assumption | (simp [up2] <;> rfl) | rfl) ?_
        refine VW.iconst (pc' := 56) d_Model_check_55 rfl (by decide) ?_
        refine VW.icmp_eq (tgt := 78) (pc' := 59) d_Model_check_56 rfl rfl (fun c56 => ?_) (fun c56 => ?_)
        · refine VW.iconst (pc' := 79) d_Model_check_78 rfl (by decide) ?_
          refine VW.goto (pc' := 83) d_Model_check_79 rfl ?_
          refine VW.cV (ci := 11) (T := T11) (N := 94) (pc' := 86) d_Model_check_83 rfl mv_Model_fails lk_Model_254 rfl (hM.k rfl) rfl rfl rfl (Nat.le_refl _) (Nat.le_refl _) (sp_Model_fails hM) rfl rfl ?_
          refine VW.pick [0, 1, 2, 3, 4, 5, 6] ?_
          exact after _ _ _ (by unfold cd_Model_check; (repeat' split) <;> first | rfl | (exfalso; omega))
        · refine VW.aload_n (pc' := 60) d_Model_check_59 rfl rfl ?_
          refine VW.gP (ci := 11) (T := T11) (N := 94) (k := 14) (k' := 14) (pc' := 63) d_Model_check_60 rfl lk_Model_46 in11 rfl rfl rfl rfl (hM.k rfl) (hM.p (r := some 214) 14 rfl rfl) ?_
          refine VW.bipush (pc' := 65) d_Model_check_63 rfl (by decide) ?_
          refine VW.iload_n (pc' := 66) d_Model_check_65 rfl rfl ?_
          refine VW.iadd (pc' := 67) d_Model_check_66 rfl (by omega) ?_
          refine VW.ild (pc' := 68) d_Model_check_67 rfl (hM.k rfl) (by omega) (by omega) (by first | assumption | (simp [up2] <;> rfl) | rfl) ?_
          refine VW.if_gt (tgt := 78) (pc' := 71) d_Model_check_68 rfl rfl (fun c68 => ?_) (fun c68 => ?_)
          · refine VW.iconst (pc' := 79) d_Model_check_78 rfl (by decide) ?_
            refine VW.goto (pc' := 83) d_Model_check_79 rfl ?_
            refine VW.cV (ci := 11) (T := T11) (N := 94) (pc' := 86) d_Model_check_83 rfl mv_Model_fails lk_Model_254 rfl (hM.k rfl) rfl rfl rfl (Nat.le_refl _) (Nat.le_refl _) (sp_Model_fails hM) rfl rfl ?_
            refine VW.pick [0, 1, 2, 3, 4, 5, 6] ?_
            exact after _ _ _ (by unfold cd_Model_check; (repeat' split) <;> first | rfl | (exfalso; omega))
          · refine VW.aload_n (pc' := 72) d_Model_check_71 rfl rfl ?_
            refine VW.cV (ci := 11) (T := T11) (N := 94) (pc' := 75) d_Model_check_72 rfl mv_Model_isUnderWay lk_Model_250 rfl (hM.k rfl) rfl rfl rfl (Nat.le_refl _) (Nat.le_refl _) (sp_under hM hb) rfl rfl ?_
            refine VW.if_eq (tgt := 82) (pc' := 78) d_Model_check_75 rfl rfl (fun c75 => ?_) (fun c75 => ?_)
            · try have e75 := bIe c75
              refine VW.iconst (pc' := 83) d_Model_check_82 rfl (by decide) ?_
              refine VW.cV (ci := 11) (T := T11) (N := 94) (pc' := 86) d_Model_check_83 rfl mv_Model_fails lk_Model_254 rfl (hM.k rfl) rfl rfl rfl (Nat.le_refl _) (Nat.le_refl _) (sp_Model_fails hM) rfl rfl ?_
              refine VW.pick [0, 1, 2, 3, 4, 5, 6] ?_
              exact after _ _ _ (by unfold cd_Model_check; (repeat' split) <;> first | rfl | (exfalso; omega))
            · try have e75 := bIn c75
              refine VW.iconst (pc' := 79) d_Model_check_78 rfl (by decide) ?_
              refine VW.goto (pc' := 83) d_Model_check_79 rfl ?_
              refine VW.cV (ci := 11) (T := T11) (N := 94) (pc' := 86) d_Model_check_83 rfl mv_Model_fails lk_Model_254 rfl (hM.k rfl) rfl rfl rfl (Nat.le_refl _) (Nat.le_refl _) (sp_Model_fails hM) rfl rfl ?_
              refine VW.pick [0, 1, 2, 3, 4, 5, 6] ?_
              exact after _ _ _ (by unfold cd_Model_check; (repeat' split) <;> first | rfl | (exfalso; omega))
      · try have e33 := bIe c33
        refine VW.iconst (pc' := 37) d_Model_check_36 rfl (by decide) ?_
        refine VW.goto (pc' := 83) d_Model_check_37 rfl ?_
        refine VW.cV (ci := 11) (T := T11) (N := 94) (pc' := 86) d_Model_check_83 rfl mv_Model_fails lk_Model_254 rfl (hM.k rfl) rfl rfl rfl (Nat.le_refl _) (Nat.le_refl _) (sp_Model_fails hM) rfl rfl ?_
        refine VW.pick [0, 1, 2, 3, 4, 5, 6] ?_
        exact after _ _ _ (by unfold cd_Model_check; (repeat' split) <;> first | rfl | (exfalso; omega))
noncomputable def cd_Model_refer (I : IT) (t c o w : Int) : Int := if ¬ (bI (0 ≤ t ∧ t < I 100 0 ∧ 0 ≤ c ∧ c < I 201 t) ≠ 0 ∧ 0 < c ∧ bI (0 ≤ o ∧ o < I 100 0) ≠ 0) then 1 else if bI (0 ≤ w ∧ w ≤ 2) = 0 then 2 else if I 206 (4 * t + c) = -1 ∧ I 214 (24 + t) = 0 ∧ bI (mUnder I) = 0 then 0 else 3
noncomputable def f_Model_refer  (t c o w : Int) (S : IT) : IT × Int := (filI (up2 (up2 S 206 (4 * t + c) o) 207 (4 * t + c) w) 263 0 20 0, 0)
noncomputable def r_Model_refer  (I : IT) (t c o w : Int) : IT × Int := callR (cd_Model_refer I t c o w) I (f_Model_refer  t c o w)
theorem sp_Model_refer {t c o w : Int} (hM : MW K P) (hb : MB I) : Sp m_Model_refer false (rmv 3 67) (ex K P J (r_Model_refer  I t c o w).1 (.inl none)) K P J I [vR (some 100), vI t, vI c, vI o, vI w] := by
  refine Sp.ofV (by decide) (Or.inr rfl) rfl ?_
  have rest : ∀ a b : Int, ∀ S : IT, (S = up2 I 100 93 0) → (cd_Model_refer I t c o w = 0) → (((bI (0 ≤ t ∧ t < I 100 0 ∧ 0 ≤ c ∧ c < I 201 t) ≠ 0 ∧ 0 < c ∧ bI (0 ≤ o ∧ o < I 100 0) ≠ 0))) → VW m_Model_refer false (rmv 3 67) (ex K P J (f_Model_refer  t c o w S).1 (.inl none)) K P J S 0 0 113 [(0, vR (some 100)), (1, vI t), (2, vI c), (3, vI o), (4, vI w), (5, vI a), (6, vI b)] [] := by
    intro a b S eS hcd q
    have u : ∀ (o : Nat) (k : Int), (o ≠ 100 ∨ k ≠ 93) → S o k = I o k := fun o k h => by rw [eS]; exact if_neg (fun z => h.elim (fun y => y z.1) (fun y => y z.2))
    have q2 := bIn q.1
    have q3 := bIn q.2.2
    have b0 := hb.tab
    have b1 := hb.col t
    clear u q
    refine VW.aload_n (pc' := 114) d_Model_refer_113 rfl rfl ?_
    refine VW.gP (ci := 11) (T := T11) (N := 94) (k := 6) (k' := 6) (pc' := 117) d_Model_refer_114 rfl lk_Model_25 in11 rfl rfl rfl rfl (hM.k rfl) (hM.p (r := some 206) 6 rfl rfl) ?_
    refine VW.iconst (pc' := 118) d_Model_refer_117 rfl (by decide) ?_
    refine VW.iload_n (pc' := 119) d_Model_refer_118 rfl rfl ?_
    refine VW.imul (pc' := 120) d_Model_refer_119 rfl (by omega) ?_
    refine VW.iload_n (pc' := 121) d_Model_refer_120 rfl rfl ?_
    refine VW.iadd (pc' := 122) d_Model_refer_121 rfl (by omega) ?_
    refine VW.iload_n (pc' := 123) d_Model_refer_122 rfl rfl ?_
    refine VW.iast (pc' := 124) d_Model_refer_123 rfl (hM.k rfl) (by omega) (by omega) ?_
    refine VW.aload_n (pc' := 125) d_Model_refer_124 rfl rfl ?_
    refine VW.gP (ci := 11) (T := T11) (N := 94) (k := 7) (k' := 7) (pc' := 128) d_Model_refer_125 rfl lk_Model_28 in11 rfl rfl rfl rfl (hM.k rfl) (hM.p (r := some 207) 7 rfl rfl) ?_
    refine VW.iconst (pc' := 129) d_Model_refer_128 rfl (by decide) ?_
    refine VW.iload_n (pc' := 130) d_Model_refer_129 rfl rfl ?_
    refine VW.imul (pc' := 131) d_Model_refer_130 rfl (by omega) ?_
    refine VW.iload_n (pc' := 132) d_Model_refer_131 rfl rfl ?_
    refine VW.iadd (pc' := 133) d_Model_refer_132 rfl (by omega) ?_
    refine VW.iload (pc' := 135) d_Model_refer_133 rfl rfl ?_
    refine VW.iast (pc' := 136) d_Model_refer_135 rfl (hM.k rfl) (by omega) (by omega) ?_
    refine VW.aload_n (pc' := 137) d_Model_refer_136 rfl rfl ?_
    refine VW.cV (ci := 11) (T := T11) (N := 94) (pc' := 140) d_Model_refer_137 rfl mv_Model_throwsPlans lk_Model_257 rfl (hM.k rfl) rfl rfl rfl (Nat.le_refl _) (Nat.le_refl _) (sp_Model_throwsPlans hM) rfl rfl ?_
    exact VW.vret d_Model_refer_140 rfl (Nat.zero_le _) (Nat.zero_le _) ex_rf
  have after : ∀ a b : Int, ∀ z : Int, z = cd_Model_refer I t c o w → VW m_Model_refer false (rmv 3 67) (ex K P J (r_Model_refer  I t c o w).1 (.inl none)) K P J (up2 I 100 93 z) 0 0 110 [(0, vR (some 100)), (1, vI t), (2, vI c), (3, vI o), (4, vI w), (5, vI a), (6, vI b)] [vI (bI (0 < z))] := by
    intro a b z hz
    unfold r_Model_refer
    rw [← hz]
    have q : ¬ 0 < z → (z = 0 ∧ (((bI (0 ≤ t ∧ t < I 100 0 ∧ 0 ≤ c ∧ c < I 201 t) ≠ 0 ∧ 0 < c ∧ bI (0 ≤ o ∧ o < I 100 0) ≠ 0)))) := by
      intro h0
      have hz' := hz
      unfold cd_Model_refer at hz'
      (repeat' split at hz') <;> first | (exfalso; omega) | (refine ⟨by omega, ?_⟩; first | trivial | omega)
    refine VW.if_ne (tgt := 140) (pc' := 113) d_Model_refer_110 rfl rfl (fun c110 => ?_) (fun c110 => ?_)
    · try have e110 := bIn c110
      exact VW.vret d_Model_refer_140 rfl (Nat.zero_le _) (Nat.zero_le _) (ex_r0 (callR_1 e110))
    · try have e110 := bIe c110
      refine VW.nrm ?_
      rw [callR_0 e110]
      have qq := q e110
      have hz2 := hz.symm.trans qq.1
      rw [qq.1]
      exact rest _ _ _ rfl hz2 qq.2
  have b0 := hb.tab
  have b1 := hb.col t
  refine VW.aload_n (pc' := 1) d_Model_refer_0 rfl rfl ?_
  refine VW.iload_n (pc' := 2) d_Model_refer_1 rfl rfl ?_
  refine VW.iload_n (pc' := 3) d_Model_refer_2 rfl rfl ?_
  refine VW.cV (ci := 11) (T := T11) (N := 94) (pc' := 6) d_Model_refer_3 rfl mv_Model_isColumn lk_Model_260 rfl (hM.k rfl) rfl rfl rfl (Nat.le_refl _) (Nat.le_refl _) (sp_Model_isColumn hM hb.tab.1 hb.tab.2 (fun t _ _ => (hb.col t).1)) rfl rfl ?_
  refine VW.if_eq (tgt := 25) (pc' := 9) d_Model_refer_6 rfl rfl (fun c6 => ?_) (fun c6 => ?_)
  · try have e6 := bIe c6
    refine VW.iconst (pc' := 26) d_Model_refer_25 rfl (by decide) ?_
    refine VW.istore (pc' := 28) d_Model_refer_26 rfl rfl ?_
    refine VW.iload (pc' := 30) d_Model_refer_28 rfl rfl ?_
    refine VW.if_eq (tgt := 70) (pc' := 33) d_Model_refer_30 rfl rfl (fun _ => ?_) (fun c30 => absurd c30 (by decide))
    refine VW.iconst (pc' := 71) d_Model_refer_70 rfl (by decide) ?_
    refine VW.istore (pc' := 73) d_Model_refer_71 rfl rfl ?_
    refine VW.aload_n (pc' := 74) d_Model_refer_73 rfl rfl ?_
    refine VW.iload (pc' := 76) d_Model_refer_74 rfl rfl ?_
    refine VW.if_ne (tgt := 83) (pc' := 79) d_Model_refer_76 rfl rfl (fun c76 => absurd c76 (by decide)) (fun _ => ?_)
    refine VW.iconst (pc' := 80) d_Model_refer_79 rfl (by decide) ?_
    refine VW.goto (pc' := 107) d_Model_refer_80 rfl ?_
    refine VW.cV (ci := 11) (T := T11) (N := 94) (pc' := 110) d_Model_refer_107 rfl mv_Model_fails lk_Model_254 rfl (hM.k rfl) rfl rfl rfl (Nat.le_refl _) (Nat.le_refl _) (sp_Model_fails hM) rfl rfl ?_
    refine VW.pick [0, 1, 2, 3, 4, 5, 6] ?_
    exact after _ _ _ (by unfold cd_Model_refer; (repeat' split) <;> first | rfl | (exfalso; omega))
  · try have e6 := bIn c6
    refine VW.iload_n (pc' := 10) d_Model_refer_9 rfl rfl ?_
    refine VW.if_le (tgt := 25) (pc' := 13) d_Model_refer_10 rfl rfl (fun c10 => ?_) (fun c10 => ?_)
    · refine VW.iconst (pc' := 26) d_Model_refer_25 rfl (by decide) ?_
      refine VW.istore (pc' := 28) d_Model_refer_26 rfl rfl ?_
      refine VW.iload (pc' := 30) d_Model_refer_28 rfl rfl ?_
      refine VW.if_eq (tgt := 70) (pc' := 33) d_Model_refer_30 rfl rfl (fun _ => ?_) (fun c30 => absurd c30 (by decide))
      refine VW.iconst (pc' := 71) d_Model_refer_70 rfl (by decide) ?_
      refine VW.istore (pc' := 73) d_Model_refer_71 rfl rfl ?_
      refine VW.aload_n (pc' := 74) d_Model_refer_73 rfl rfl ?_
      refine VW.iload (pc' := 76) d_Model_refer_74 rfl rfl ?_
      refine VW.if_ne (tgt := 83) (pc' := 79) d_Model_refer_76 rfl rfl (fun c76 => absurd c76 (by decide)) (fun _ => ?_)
      refine VW.iconst (pc' := 80) d_Model_refer_79 rfl (by decide) ?_
      refine VW.goto (pc' := 107) d_Model_refer_80 rfl ?_
      refine VW.cV (ci := 11) (T := T11) (N := 94) (pc' := 110) d_Model_refer_107 rfl mv_Model_fails lk_Model_254 rfl (hM.k rfl) rfl rfl rfl (Nat.le_refl _) (Nat.le_refl _) (sp_Model_fails hM) rfl rfl ?_
      refine VW.pick [0, 1, 2, 3, 4, 5, 6] ?_
      exact after _ _ _ (by unfold cd_Model_refer; (repeat' split) <;> first | rfl | (exfalso; omega))
    · refine VW.aload_n (pc' := 14) d_Model_refer_13 rfl rfl ?_
      refine VW.iload_n (pc' := 15) d_Model_refer_14 rfl rfl ?_
      refine VW.cV (ci := 11) (T := T11) (N := 94) (pc' := 18) d_Model_refer_15 rfl mv_Model_isTable lk_Model_242 rfl (hM.k rfl) rfl rfl rfl (Nat.le_refl _) (Nat.le_refl _) (sp_Model_isTable hM hb.tab.1) rfl rfl ?_
      refine VW.if_eq (tgt := 25) (pc' := 21) d_Model_refer_18 rfl rfl (fun c18 => ?_) (fun c18 => ?_)
      · try have e18 := bIe c18
        refine VW.iconst (pc' := 26) d_Model_refer_25 rfl (by decide) ?_
        refine VW.istore (pc' := 28) d_Model_refer_26 rfl rfl ?_
        refine VW.iload (pc' := 30) d_Model_refer_28 rfl rfl ?_
        refine VW.if_eq (tgt := 70) (pc' := 33) d_Model_refer_30 rfl rfl (fun _ => ?_) (fun c30 => absurd c30 (by decide))
        refine VW.iconst (pc' := 71) d_Model_refer_70 rfl (by decide) ?_
        refine VW.istore (pc' := 73) d_Model_refer_71 rfl rfl ?_
        refine VW.aload_n (pc' := 74) d_Model_refer_73 rfl rfl ?_
        refine VW.iload (pc' := 76) d_Model_refer_74 rfl rfl ?_
        refine VW.if_ne (tgt := 83) (pc' := 79) d_Model_refer_76 rfl rfl (fun c76 => absurd c76 (by decide)) (fun _ => ?_)
        refine VW.iconst (pc' := 80) d_Model_refer_79 rfl (by decide) ?_
        refine VW.goto (pc' := 107) d_Model_refer_80 rfl ?_
        refine VW.cV (ci := 11) (T := T11) (N := 94) (pc' := 110) d_Model_refer_107 rfl mv_Model_fails lk_Model_254 rfl (hM.k rfl) rfl rfl rfl (Nat.le_refl _) (Nat.le_refl _) (sp_Model_fails hM) rfl rfl ?_
        refine VW.pick [0, 1, 2, 3, 4, 5, 6] ?_
        exact after _ _ _ (by unfold cd_Model_refer; (repeat' split) <;> first | rfl | (exfalso; omega))
      · try have e18 := bIn c18
        refine VW.iconst (pc' := 22) d_Model_refer_21 rfl (by decide) ?_
        refine VW.goto (pc' := 26) d_Model_refer_22 rfl ?_
        refine VW.istore (pc' := 28) d_Model_refer_26 rfl rfl ?_
        refine VW.iload (pc' := 30) d_Model_refer_28 rfl rfl ?_
        refine VW.if_eq (tgt := 70) (pc' := 33) d_Model_refer_30 rfl rfl (fun c30 => absurd c30 (by decide)) (fun _ => ?_)
        have q2 := bIn c6
        refine VW.aload_n (pc' := 34) d_Model_refer_33 rfl rfl ?_
        refine VW.gP (ci := 11) (T := T11) (N := 94) (k := 6) (k' := 6) (pc' := 37) d_Model_refer_34 rfl lk_Model_25 in11 rfl rfl rfl rfl (hM.k rfl) (hM.p (r := some 206) 6 rfl rfl) ?_
        refine VW.iconst (pc' := 38) d_Model_refer_37 rfl (by decide) ?_
        refine VW.iload_n (pc' := 39) d_Model_refer_38 rfl rfl ?_
        refine VW.imul (pc' := 40) d_Model_refer_39 rfl (by omega) ?_
        refine VW.iload_n (pc' := 41) d_Model_refer_40 rfl rfl ?_
        refine VW.iadd (pc' := 42) d_Model_refer_41 rfl (by omega) ?_
        refine VW.ild (pc' := 43) d_Model_refer_42 rfl (hM.k rfl) (by omega) (by omega) (by first | assumption | (simp [up2] <;> rfl) | rfl) ?_
        refine VW.iconst (pc' := 44) d_Model_refer_43 rfl (by decide) ?_
        refine VW.icmp_ne (tgt := 70) (pc' := 47) d_Model_refer_44 rfl rfl (fun c44 => ?_) (fun c44 => ?_)
        · refine VW.iconst (pc' := 71) d_Model_refer_70 rfl (by decide) ?_
          refine VW.istore (pc' := 73) d_Model_refer_71 rfl rfl ?_
          refine VW.aload_n (pc' := 74) d_Model_refer_73 rfl rfl ?_
          refine VW.iload (pc' := 76) d_Model_refer_74 rfl rfl ?_
          refine VW.if_ne (tgt := 83) (pc' := 79) d_Model_refer_76 rfl rfl (fun _ => ?_) (fun c76 => absurd c76 (by decide))
          refine VW.iload (pc' := 85) d_Model_refer_83 rfl rfl ?_
          refine VW.iconst (pc' := 86) d_Model_refer_85 rfl (by decide) ?_
          refine VW.iconst (pc' := 87) d_Model_refer_86 rfl (by decide) ?_
          refine VW.cS (pc' := 90) d_Model_refer_87 rfl ms_Model_isIn lk_Model_235 rfl rfl rfl (Nat.le_refl _) (Nat.le_refl _) (sp_Model_isIn) rfl rfl ?_
          refine VW.if_ne (tgt := 97) (pc' := 93) d_Model_refer_90 rfl rfl (fun c90 => ?_) (fun c90 => ?_)
          · try have e90 := bIn c90
            refine VW.iload (pc' := 99) d_Model_refer_97 rfl rfl ?_
            refine VW.if_eq (tgt := 106) (pc' := 102) d_Model_refer_99 rfl rfl (fun _ => ?_) (fun c99 => absurd c99 (by decide))
            refine VW.iconst (pc' := 107) d_Model_refer_106 rfl (by decide) ?_
            refine VW.cV (ci := 11) (T := T11) (N := 94) (pc' := 110) d_Model_refer_107 rfl mv_Model_fails lk_Model_254 rfl (hM.k rfl) rfl rfl rfl (Nat.le_refl _) (Nat.le_refl _) (sp_Model_fails hM) rfl rfl ?_
            refine VW.pick [0, 1, 2, 3, 4, 5, 6] ?_
            exact after _ _ _ (by unfold cd_Model_refer; (repeat' split) <;> first | rfl | (exfalso; omega))
          · try have e90 := bIe c90
            refine VW.iconst (pc' := 94) d_Model_refer_93 rfl (by decide) ?_
            refine VW.goto (pc' := 107) d_Model_refer_94 rfl ?_
            refine VW.cV (ci := 11) (T := T11) (N := 94) (pc' := 110) d_Model_refer_107 rfl mv_Model_fails lk_Model_254 rfl (hM.k rfl) rfl rfl rfl (Nat.le_refl _) (Nat.le_refl _) (sp_Model_fails hM) rfl rfl ?_
            refine VW.pick [0, 1, 2, 3, 4, 5, 6] ?_
            exact after _ _ _ (by unfold cd_Model_refer; (repeat' split) <;> first | rfl | (exfalso; omega))
        · refine VW.aload_n (pc' := 48) d_Model_refer_47 rfl rfl ?_
          refine VW.gP (ci := 11) (T := T11) (N := 94) (k := 14) (k' := 14) (pc' := 51) d_Model_refer_48 rfl lk_Model_46 in11 rfl rfl rfl rfl (hM.k rfl) (hM.p (r := some 214) 14 rfl rfl) ?_
          refine VW.bipush (pc' := 53) d_Model_refer_51 rfl (by decide) ?_
          refine VW.iload_n (pc' := 54) d_Model_refer_53 rfl rfl ?_
          refine VW.iadd (pc' := 55) d_Model_refer_54 rfl (by omega) ?_
          refine VW.ild (pc' := 56) d_Model_refer_55 rfl (hM.k rfl) (by omega) (by omega) (by first | assumption | (simp [up2] <;> rfl) | rfl) ?_
          refine VW.if_ne (tgt := 70) (pc' := 59) d_Model_refer_56 rfl rfl (fun c56 => ?_) (fun c56 => ?_)
          · try have e56 := bIn c56
            refine VW.iconst (pc' := 71) d_Model_refer_70 rfl (by decide) ?_
            refine VW.istore (pc' := 73) d_Model_refer_71 rfl rfl ?_
            refine VW.aload_n (pc' := 74) d_Model_refer_73 rfl rfl ?_
            refine VW.iload (pc' := 76) d_Model_refer_74 rfl rfl ?_
            refine VW.if_ne (tgt := 83) (pc' := 79) d_Model_refer_76 rfl rfl (fun _ => ?_) (fun c76 => absurd c76 (by decide))
            refine VW.iload (pc' := 85) d_Model_refer_83 rfl rfl ?_
            refine VW.iconst (pc' := 86) d_Model_refer_85 rfl (by decide) ?_
            refine VW.iconst (pc' := 87) d_Model_refer_86 rfl (by decide) ?_
            refine VW.cS (pc' := 90) d_Model_refer_87 rfl ms_Model_isIn lk_Model_235 rfl rfl rfl (Nat.le_refl _) (Nat.le_refl _) (sp_Model_isIn) rfl rfl ?_
            refine VW.if_ne (tgt := 97) (pc' := 93) d_Model_refer_90 rfl rfl (fun c90 => ?_) (fun c90 => ?_)
            · try have e90 := bIn c90
              refine VW.iload (pc' := 99) d_Model_refer_97 rfl rfl ?_
              refine VW.if_eq (tgt := 106) (pc' := 102) d_Model_refer_99 rfl rfl (fun _ => ?_) (fun c99 => absurd c99 (by decide))
              refine VW.iconst (pc' := 107) d_Model_refer_106 rfl (by decide) ?_
              refine VW.cV (ci := 11) (T := T11) (N := 94) (pc' := 110) d_Model_refer_107 rfl mv_Model_fails lk_Model_254 rfl (hM.k rfl) rfl rfl rfl (Nat.le_refl _) (Nat.le_refl _) (sp_Model_fails hM) rfl rfl ?_
              refine VW.pick [0, 1, 2, 3, 4, 5, 6] ?_
              exact after _ _ _ (by unfold cd_Model_refer; (repeat' split) <;> first | rfl | (exfalso; omega))
            · try have e90 := bIe c90
              refine VW.iconst (pc' := 94) d_Model_refer_93 rfl (by decide) ?_
              refine VW.goto (pc' := 107) d_Model_refer_94 rfl ?_
              refine VW.cV (ci := 11) (T := T11) (N := 94) (pc' := 110) d_Model_refer_107 rfl mv_Model_fails lk_Model_254 rfl (hM.k rfl) rfl rfl rfl (Nat.le_refl _) (Nat.le_refl _) (sp_Model_fails hM) rfl rfl ?_
              refine VW.pick [0, 1, 2, 3, 4, 5, 6] ?_
              exact after _ _ _ (by unfold cd_Model_refer; (repeat' split) <;> first | rfl | (exfalso; omega))
          · try have e56 := bIe c56
            refine VW.aload_n (pc' := 60) d_Model_refer_59 rfl rfl ?_
            refine VW.cV (ci := 11) (T := T11) (N := 94) (pc' := 63) d_Model_refer_60 rfl mv_Model_isUnderWay lk_Model_250 rfl (hM.k rfl) rfl rfl rfl (Nat.le_refl _) (Nat.le_refl _) (sp_under hM hb) rfl rfl ?_
            refine VW.if_ne (tgt := 70) (pc' := 66) d_Model_refer_63 rfl rfl (fun c63 => ?_) (fun c63 => ?_)
            · try have e63 := bIn c63
              refine VW.iconst (pc' := 71) d_Model_refer_70 rfl (by decide) ?_
              refine VW.istore (pc' := 73) d_Model_refer_71 rfl rfl ?_
              refine VW.aload_n (pc' := 74) d_Model_refer_73 rfl rfl ?_
              refine VW.iload (pc' := 76) d_Model_refer_74 rfl rfl ?_
              refine VW.if_ne (tgt := 83) (pc' := 79) d_Model_refer_76 rfl rfl (fun _ => ?_) (fun c76 => absurd c76 (by decide))
              refine VW.iload (pc' := 85) d_Model_refer_83 rfl rfl ?_
              refine VW.iconst (pc' := 86) d_Model_refer_85 rfl (by decide) ?_
              refine VW.iconst (pc' := 87) d_Model_refer_86 rfl (by decide) ?_
              refine VW.cS (pc' := 90) d_Model_refer_87 rfl ms_Model_isIn lk_Model_235 rfl rfl rfl (Nat.le_refl _) (Nat.le_refl _) (sp_Model_isIn) rfl rfl ?_
              refine VW.if_ne (tgt := 97) (pc' := 93) d_Model_refer_90 rfl rfl (fun c90 => ?_) (fun c90 => ?_)
              · try have e90 := bIn c90
                refine VW.iload (pc' := 99) d_Model_refer_97 rfl rfl ?_
                refine VW.if_eq (tgt := 106) (pc' := 102) d_Model_refer_99 rfl rfl (fun _ => ?_) (fun c99 => absurd c99 (by decide))
                refine VW.iconst (pc' := 107) d_Model_refer_106 rfl (by decide) ?_
                refine VW.cV (ci := 11) (T := T11) (N := 94) (pc' := 110) d_Model_refer_107 rfl mv_Model_fails lk_Model_254 rfl (hM.k rfl) rfl rfl rfl (Nat.le_refl _) (Nat.le_refl _) (sp_Model_fails hM) rfl rfl ?_
                refine VW.pick [0, 1, 2, 3, 4, 5, 6] ?_
                exact after _ _ _ (by unfold cd_Model_refer; (repeat' split) <;> first | rfl | (exfalso; omega))
              · try have e90 := bIe c90
                refine VW.iconst (pc' := 94) d_Model_refer_93 rfl (by decide) ?_
                refine VW.goto (pc' := 107) d_Model_refer_94 rfl ?_
                refine VW.cV (ci := 11) (T := T11) (N := 94) (pc' := 110) d_Model_refer_107 rfl mv_Model_fails lk_Model_254 rfl (hM.k rfl) rfl rfl rfl (Nat.le_refl _) (Nat.le_refl _) (sp_Model_fails hM) rfl rfl ?_
                refine VW.pick [0, 1, 2, 3, 4, 5, 6] ?_
                exact after _ _ _ (by unfold cd_Model_refer; (repeat' split) <;> first | rfl | (exfalso; omega))
            · try have e63 := bIe c63
              refine VW.iconst (pc' := 67) d_Model_refer_66 rfl (by decide) ?_
              refine VW.goto (pc' := 71) d_Model_refer_67 rfl ?_
              refine VW.istore (pc' := 73) d_Model_refer_71 rfl rfl ?_
              refine VW.aload_n (pc' := 74) d_Model_refer_73 rfl rfl ?_
              refine VW.iload (pc' := 76) d_Model_refer_74 rfl rfl ?_
              refine VW.if_ne (tgt := 83) (pc' := 79) d_Model_refer_76 rfl rfl (fun _ => ?_) (fun c76 => absurd c76 (by decide))
              refine VW.iload (pc' := 85) d_Model_refer_83 rfl rfl ?_
              refine VW.iconst (pc' := 86) d_Model_refer_85 rfl (by decide) ?_
              refine VW.iconst (pc' := 87) d_Model_refer_86 rfl (by decide) ?_
              refine VW.cS (pc' := 90) d_Model_refer_87 rfl ms_Model_isIn lk_Model_235 rfl rfl rfl (Nat.le_refl _) (Nat.le_refl _) (sp_Model_isIn) rfl rfl ?_
              refine VW.if_ne (tgt := 97) (pc' := 93) d_Model_refer_90 rfl rfl (fun c90 => ?_) (fun c90 => ?_)
              · try have e90 := bIn c90
                refine VW.iload (pc' := 99) d_Model_refer_97 rfl rfl ?_
                refine VW.if_eq (tgt := 106) (pc' := 102) d_Model_refer_99 rfl rfl (fun c99 => absurd c99 (by decide)) (fun _ => ?_)
                refine VW.iconst (pc' := 103) d_Model_refer_102 rfl (by decide) ?_
                refine VW.goto (pc' := 107) d_Model_refer_103 rfl ?_
                refine VW.cV (ci := 11) (T := T11) (N := 94) (pc' := 110) d_Model_refer_107 rfl mv_Model_fails lk_Model_254 rfl (hM.k rfl) rfl rfl rfl (Nat.le_refl _) (Nat.le_refl _) (sp_Model_fails hM) rfl rfl ?_
                refine VW.pick [0, 1, 2, 3, 4, 5, 6] ?_
                exact after _ _ _ (by unfold cd_Model_refer; (repeat' split) <;> first | rfl | (exfalso; omega))
              · try have e90 := bIe c90
                refine VW.iconst (pc' := 94) d_Model_refer_93 rfl (by decide) ?_
                refine VW.goto (pc' := 107) d_Model_refer_94 rfl ?_
                refine VW.cV (ci := 11) (T := T11) (N := 94) (pc' := 110) d_Model_refer_107 rfl mv_Model_fails lk_Model_254 rfl (hM.k rfl) rfl rfl rfl (Nat.le_refl _) (Nat.le_refl _) (sp_Model_fails hM) rfl rfl ?_
                refine VW.pick [0, 1, 2, 3, 4, 5, 6] ?_
                exact after _ _ _ (by unfold cd_Model_refer; (repeat' split) <;> first | rfl | (exfalso; omega))
noncomputable def cd_Model_veil (I : IT) (r t c w v : Int) : Int := if bI (1 ≤ r ∧ r ≤ 3) = 0 ∨ bI (0 ≤ t ∧ t < I 100 0 ∧ 0 ≤ c ∧ c < I 201 t) = 0 then 1 else if bI (0 ≤ w ∧ w ≤ 2) = 0 ∨ bI (-1000 ≤ v ∧ v ≤ 1000) = 0 then 2 else if I 100 8 = 12 ∨ bI (mUnder I) ≠ 0 then 3 else 0
noncomputable def f_Model_veil  (r t c w v : Int) (S : IT) : IT × Int := (filI (up2 (up2 (up2 (up2 (up2 (up2 S 209 (S 100 8) r) 210 (S 100 8) t) 211 (S 100 8) c) 212 (S 100 8) w) 213 (S 100 8) v) 100 8 (S 100 8 + 1)) 263 0 20 0, S 100 8 + 1)
noncomputable def r_Model_veil  (I : IT) (r t c w v : Int) : IT × Int := callR (cd_Model_veil I r t c w v) I (f_Model_veil  r t c w v)
theorem sp_Model_veil {r t c w v : Int} (hM : MW K P) (hb : MB I) : Sp m_Model_veil false (rmv 3 67) (ex K P J (r_Model_veil  I r t c w v).1 (.inl (some (vI (r_Model_veil  I r t c w v).2)))) K P J I [vR (some 100), vI r, vI t, vI c, vI w, vI v] := by
  refine Sp.ofV (by decide) (Or.inr rfl) rfl ?_
  have rest : ∀ a b : Int, ∀ S : IT, (S = up2 I 100 93 0) → (cd_Model_veil I r t c w v = 0) → ((I 100 8 ≠ 12)) → VW m_Model_veil false (rmv 3 67) (ex K P J (f_Model_veil  r t c w v S).1 (.inl (some (vI (f_Model_veil  r t c w v S).2)))) K P J S 0 0 96 [(0, vR (some 100)), (1, vI r), (2, vI t), (3, vI c), (4, vI w), (5, vI v), (6, vI a), (7, vI b)] [] := by
    intro a b S eS hcd q
    have u : ∀ (o : Nat) (k : Int), (o ≠ 100 ∨ k ≠ 93) → S o k = I o k := fun o k h => by rw [eS]; exact if_neg (fun z => h.elim (fun y => y z.1) (fun y => y z.2))
    have b0 := hb.vei
    have u0 : 0 ≤ S 100 8 ∧ S 100 8 < 12 := by rw [u 100 8 (by decide)]; omega
    clear b0 u q
    refine VW.aload_n (pc' := 97) d_Model_veil_96 rfl rfl ?_
    refine VW.gP (ci := 11) (T := T11) (N := 94) (k := 9) (k' := 9) (pc' := 100) d_Model_veil_97 rfl lk_Model_31 in11 rfl rfl rfl rfl (hM.k rfl) (hM.p (r := some 209) 9 rfl rfl) ?_
    refine VW.aload_n (pc' := 101) d_Model_veil_100 rfl rfl ?_
    refine VW.gI (ci := 11) (T := T11) (N := 94) (k := 8) (k' := 8) (pc' := 104) d_Model_veil_101 rfl lk_Model_270 in11 rfl rfl rfl rfl (hM.k rfl) (by first | exact up2_eq _ _ _ _ | (simp [up2] <;> rfl) | rfl) ?_
    refine VW.iload_n (pc' := 105) d_Model_veil_104 rfl rfl ?_
    refine VW.iast (pc' := 106) d_Model_veil_105 rfl (hM.k rfl) (by omega) (by omega) ?_
    refine VW.aload_n (pc' := 107) d_Model_veil_106 rfl rfl ?_
    refine VW.gP (ci := 11) (T := T11) (N := 94) (k := 10) (k' := 10) (pc' := 110) d_Model_veil_107 rfl lk_Model_34 in11 rfl rfl rfl rfl (hM.k rfl) (hM.p (r := some 210) 10 rfl rfl) ?_
    refine VW.aload_n (pc' := 111) d_Model_veil_110 rfl rfl ?_
    refine VW.gI (ci := 11) (T := T11) (N := 94) (k := 8) (k' := 8) (pc' := 114) d_Model_veil_111 rfl lk_Model_270 in11 rfl rfl rfl rfl (hM.k rfl) (by first | exact up2_eq _ _ _ _ | (simp [up2] <;> rfl) | rfl) ?_
    refine VW.iload_n (pc' := 115) d_Model_veil_114 rfl rfl ?_
    refine VW.iast (pc' := 116) d_Model_veil_115 rfl (hM.k rfl) (by omega) (by omega) ?_
    refine VW.aload_n (pc' := 117) d_Model_veil_116 rfl rfl ?_
    refine VW.gP (ci := 11) (T := T11) (N := 94) (k := 11) (k' := 11) (pc' := 120) d_Model_veil_117 rfl lk_Model_37 in11 rfl rfl rfl rfl (hM.k rfl) (hM.p (r := some 211) 11 rfl rfl) ?_
    refine VW.aload_n (pc' := 121) d_Model_veil_120 rfl rfl ?_
    refine VW.gI (ci := 11) (T := T11) (N := 94) (k := 8) (k' := 8) (pc' := 124) d_Model_veil_121 rfl lk_Model_270 in11 rfl rfl rfl rfl (hM.k rfl) (by first | exact up2_eq _ _ _ _ | (simp [up2] <;> rfl) | rfl) ?_
    refine VW.iload_n (pc' := 125) d_Model_veil_124 rfl rfl ?_
    refine VW.iast (pc' := 126) d_Model_veil_125 rfl (hM.k rfl) (by omega) (by omega) ?_
    refine VW.aload_n (pc' := 127) d_Model_veil_126 rfl rfl ?_
    refine VW.gP (ci := 11) (T := T11) (N := 94) (k := 12) (k' := 12) (pc' := 130) d_Model_veil_127 rfl lk_Model_40 in11 rfl rfl rfl rfl (hM.k rfl) (hM.p (r := some 212) 12 rfl rfl) ?_
    refine VW.aload_n (pc' := 131) d_Model_veil_130 rfl rfl ?_
    refine VW.gI (ci := 11) (T := T11) (N := 94) (k := 8) (k' := 8) (pc' := 134) d_Model_veil_131 rfl lk_Model_270 in11 rfl rfl rfl rfl (hM.k rfl) (by first | exact up2_eq _ _ _ _ | (simp [up2] <;> rfl) | rfl) ?_
    refine VW.iload (pc' := 136) d_Model_veil_134 rfl rfl ?_
    refine VW.iast (pc' := 137) d_Model_veil_136 rfl (hM.k rfl) (by omega) (by omega) ?_
    refine VW.aload_n (pc' := 138) d_Model_veil_137 rfl rfl ?_
    refine VW.gP (ci := 11) (T := T11) (N := 94) (k := 13) (k' := 13) (pc' := 141) d_Model_veil_138 rfl lk_Model_43 in11 rfl rfl rfl rfl (hM.k rfl) (hM.p (r := some 213) 13 rfl rfl) ?_
    refine VW.aload_n (pc' := 142) d_Model_veil_141 rfl rfl ?_
    refine VW.gI (ci := 11) (T := T11) (N := 94) (k := 8) (k' := 8) (pc' := 145) d_Model_veil_142 rfl lk_Model_270 in11 rfl rfl rfl rfl (hM.k rfl) (by first | exact up2_eq _ _ _ _ | (simp [up2] <;> rfl) | rfl) ?_
    refine VW.iload (pc' := 147) d_Model_veil_145 rfl rfl ?_
    refine VW.iast (pc' := 148) d_Model_veil_147 rfl (hM.k rfl) (by omega) (by omega) ?_
    refine VW.aload_n (pc' := 149) d_Model_veil_148 rfl rfl ?_
    refine VW.dup (pc' := 150) d_Model_veil_149 rfl rfl ?_
    refine VW.gI (ci := 11) (T := T11) (N := 94) (k := 8) (k' := 8) (pc' := 153) d_Model_veil_150 rfl lk_Model_270 in11 rfl rfl rfl rfl (hM.k rfl) (by first | exact up2_eq _ _ _ _ | (simp [up2] <;> rfl) | rfl) ?_
    refine VW.iconst (pc' := 154) d_Model_veil_153 rfl (by decide) ?_
    refine VW.iadd (pc' := 155) d_Model_veil_154 rfl (by omega) ?_
    refine VW.pI (ci := 11) (T := T11) (N := 94) (k := 8) (k' := 8) (ty := ty11) (pc' := 158) d_Model_veil_155 rfl lk_Model_270 in11 tk11 nm11 rfl rfl rfl rfl rfl rfl (hM.k rfl) ?_
    refine VW.aload_n (pc' := 159) d_Model_veil_158 rfl rfl ?_
    refine VW.cV (ci := 11) (T := T11) (N := 94) (pc' := 162) d_Model_veil_159 rfl mv_Model_throwsPlans lk_Model_257 rfl (hM.k rfl) rfl rfl rfl (Nat.le_refl _) (Nat.le_refl _) (sp_Model_throwsPlans hM) rfl rfl ?_
    refine VW.aload_n (pc' := 163) d_Model_veil_162 rfl rfl ?_
    refine VW.gI (ci := 11) (T := T11) (N := 94) (k := 8) (k' := 8) (pc' := 166) d_Model_veil_163 rfl lk_Model_270 in11 rfl rfl rfl rfl (hM.k rfl) (by exact (filI_fr (by decide)).trans (up2_eq _ _ _ _)) ?_
    exact VW.iret d_Model_veil_166 rfl rfl (Nat.zero_le _) (Nat.zero_le _) ex_rf
  have after : ∀ a b : Int, ∀ z : Int, z = cd_Model_veil I r t c w v → VW m_Model_veil false (rmv 3 67) (ex K P J (r_Model_veil  I r t c w v).1 (.inl (some (vI (r_Model_veil  I r t c w v).2)))) K P J (up2 I 100 93 z) 0 0 91 [(0, vR (some 100)), (1, vI r), (2, vI t), (3, vI c), (4, vI w), (5, vI v), (6, vI a), (7, vI b)] [vI (bI (0 < z))] := by
    intro a b z hz
    unfold r_Model_veil
    rw [← hz]
    have q : ¬ 0 < z → (z = 0 ∧ ((I 100 8 ≠ 12))) := by
      intro h0
      have hz' := hz
      unfold cd_Model_veil at hz'
      (repeat' split at hz') <;> first | (exfalso; omega) | (refine ⟨by omega, ?_⟩; first | trivial | omega)
    refine VW.if_eq (tgt := 96) (pc' := 94) d_Model_veil_91 rfl rfl (fun c91 => ?_) (fun c91 => ?_)
    · try have e91 := bIe c91
      refine VW.nrm ?_
      rw [callR_0 e91]
      have qq := q e91
      have hz2 := hz.symm.trans qq.1
      rw [qq.1]
      exact rest _ _ _ rfl hz2 qq.2
    · try have e91 := bIn c91
      refine VW.iconst (pc' := 95) d_Model_veil_94 rfl (by decide) ?_
      exact VW.iret d_Model_veil_95 rfl rfl (Nat.zero_le _) (Nat.zero_le _) (ex_r (callR_1 e91))
  refine VW.iload_n (pc' := 1) d_Model_veil_0 rfl rfl ?_
  refine VW.iconst (pc' := 2) d_Model_veil_1 rfl (by decide) ?_
  refine VW.iconst (pc' := 3) d_Model_veil_2 rfl (by decide) ?_
  refine VW.cS (pc' := 6) d_Model_veil_3 rfl ms_Model_isIn lk_Model_235 rfl rfl rfl (Nat.le_refl _) (Nat.le_refl _) (sp_Model_isIn) rfl rfl ?_
  refine VW.if_eq (tgt := 22) (pc' := 9) d_Model_veil_6 rfl rfl (fun c6 => ?_) (fun c6 => ?_)
  · try have e6 := bIe c6
    refine VW.iconst (pc' := 23) d_Model_veil_22 rfl (by decide) ?_
    refine VW.istore (pc' := 25) d_Model_veil_23 rfl rfl ?_
    refine VW.iload (pc' := 27) d_Model_veil_25 rfl rfl ?_
    refine VW.cS (pc' := 30) d_Model_veil_27 rfl ms_Model_isHow lk_Model_264 rfl rfl rfl (Nat.le_refl _) (Nat.le_refl _) (sp_Model_isHow) rfl rfl ?_
    refine VW.if_eq (tgt := 45) (pc' := 33) d_Model_veil_30 rfl rfl (fun c30 => ?_) (fun c30 => ?_)
    · try have e30 := bIe c30
      refine VW.iconst (pc' := 46) d_Model_veil_45 rfl (by decide) ?_
      refine VW.istore (pc' := 48) d_Model_veil_46 rfl rfl ?_
      refine VW.aload_n (pc' := 49) d_Model_veil_48 rfl rfl ?_
      refine VW.iload (pc' := 51) d_Model_veil_49 rfl rfl ?_
      refine VW.if_ne (tgt := 58) (pc' := 54) d_Model_veil_51 rfl rfl (fun c51 => absurd c51 (by decide)) (fun _ => ?_)
      refine VW.iconst (pc' := 55) d_Model_veil_54 rfl (by decide) ?_
      refine VW.goto (pc' := 88) d_Model_veil_55 rfl ?_
      refine VW.cV (ci := 11) (T := T11) (N := 94) (pc' := 91) d_Model_veil_88 rfl mv_Model_fails lk_Model_254 rfl (hM.k rfl) rfl rfl rfl (Nat.le_refl _) (Nat.le_refl _) (sp_Model_fails hM) rfl rfl ?_
      refine VW.pick [0, 1, 2, 3, 4, 5, 6, 7] ?_
      exact after _ _ _ (by unfold cd_Model_veil; (repeat' split) <;> first | rfl | (exfalso; omega))
    · try have e30 := bIn c30
      refine VW.iload (pc' := 35) d_Model_veil_33 rfl rfl ?_
      refine VW.cS (pc' := 38) d_Model_veil_35 rfl ms_Model_isValue lk_Model_267 rfl rfl rfl (Nat.le_refl _) (Nat.le_refl _) (sp_Model_isValue) rfl rfl ?_
      refine VW.if_eq (tgt := 45) (pc' := 41) d_Model_veil_38 rfl rfl (fun c38 => ?_) (fun c38 => ?_)
      · try have e38 := bIe c38
        refine VW.iconst (pc' := 46) d_Model_veil_45 rfl (by decide) ?_
        refine VW.istore (pc' := 48) d_Model_veil_46 rfl rfl ?_
        refine VW.aload_n (pc' := 49) d_Model_veil_48 rfl rfl ?_
        refine VW.iload (pc' := 51) d_Model_veil_49 rfl rfl ?_
        refine VW.if_ne (tgt := 58) (pc' := 54) d_Model_veil_51 rfl rfl (fun c51 => absurd c51 (by decide)) (fun _ => ?_)
        refine VW.iconst (pc' := 55) d_Model_veil_54 rfl (by decide) ?_
        refine VW.goto (pc' := 88) d_Model_veil_55 rfl ?_
        refine VW.cV (ci := 11) (T := T11) (N := 94) (pc' := 91) d_Model_veil_88 rfl mv_Model_fails lk_Model_254 rfl (hM.k rfl) rfl rfl rfl (Nat.le_refl _) (Nat.le_refl _) (sp_Model_fails hM) rfl rfl ?_
        refine VW.pick [0, 1, 2, 3, 4, 5, 6, 7] ?_
        exact after _ _ _ (by unfold cd_Model_veil; (repeat' split) <;> first | rfl | (exfalso; omega))
      · try have e38 := bIn c38
        refine VW.iconst (pc' := 42) d_Model_veil_41 rfl (by decide) ?_
        refine VW.goto (pc' := 46) d_Model_veil_42 rfl ?_
        refine VW.istore (pc' := 48) d_Model_veil_46 rfl rfl ?_
        refine VW.aload_n (pc' := 49) d_Model_veil_48 rfl rfl ?_
        refine VW.iload (pc' := 51) d_Model_veil_49 rfl rfl ?_
        refine VW.if_ne (tgt := 58) (pc' := 54) d_Model_veil_51 rfl rfl (fun c51 => absurd c51 (by decide)) (fun _ => ?_)
        refine VW.iconst (pc' := 55) d_Model_veil_54 rfl (by decide) ?_
        refine VW.goto (pc' := 88) d_Model_veil_55 rfl ?_
        refine VW.cV (ci := 11) (T := T11) (N := 94) (pc' := 91) d_Model_veil_88 rfl mv_Model_fails lk_Model_254 rfl (hM.k rfl) rfl rfl rfl (Nat.le_refl _) (Nat.le_refl _) (sp_Model_fails hM) rfl rfl ?_
        refine VW.pick [0, 1, 2, 3, 4, 5, 6, 7] ?_
        exact after _ _ _ (by unfold cd_Model_veil; (repeat' split) <;> first | rfl | (exfalso; omega))
  · try have e6 := bIn c6
    refine VW.aload_n (pc' := 10) d_Model_veil_9 rfl rfl ?_
    refine VW.iload_n (pc' := 11) d_Model_veil_10 rfl rfl ?_
    refine VW.iload_n (pc' := 12) d_Model_veil_11 rfl rfl ?_
    refine VW.cV (ci := 11) (T := T11) (N := 94) (pc' := 15) d_Model_veil_12 rfl mv_Model_isColumn lk_Model_260 rfl (hM.k rfl) rfl rfl rfl (Nat.le_refl _) (Nat.le_refl _) (sp_Model_isColumn hM hb.tab.1 hb.tab.2 (fun t _ _ => (hb.col t).1)) rfl rfl ?_
    refine VW.if_eq (tgt := 22) (pc' := 18) d_Model_veil_15 rfl rfl (fun c15 => ?_) (fun c15 => ?_)
    · try have e15 := bIe c15
      refine VW.iconst (pc' := 23) d_Model_veil_22 rfl (by decide) ?_
      refine VW.istore (pc' := 25) d_Model_veil_23 rfl rfl ?_
      refine VW.iload (pc' := 27) d_Model_veil_25 rfl rfl ?_
      refine VW.cS (pc' := 30) d_Model_veil_27 rfl ms_Model_isHow lk_Model_264 rfl rfl rfl (Nat.le_refl _) (Nat.le_refl _) (sp_Model_isHow) rfl rfl ?_
      refine VW.if_eq (tgt := 45) (pc' := 33) d_Model_veil_30 rfl rfl (fun c30 => ?_) (fun c30 => ?_)
      · try have e30 := bIe c30
        refine VW.iconst (pc' := 46) d_Model_veil_45 rfl (by decide) ?_
        refine VW.istore (pc' := 48) d_Model_veil_46 rfl rfl ?_
        refine VW.aload_n (pc' := 49) d_Model_veil_48 rfl rfl ?_
        refine VW.iload (pc' := 51) d_Model_veil_49 rfl rfl ?_
        refine VW.if_ne (tgt := 58) (pc' := 54) d_Model_veil_51 rfl rfl (fun c51 => absurd c51 (by decide)) (fun _ => ?_)
        refine VW.iconst (pc' := 55) d_Model_veil_54 rfl (by decide) ?_
        refine VW.goto (pc' := 88) d_Model_veil_55 rfl ?_
        refine VW.cV (ci := 11) (T := T11) (N := 94) (pc' := 91) d_Model_veil_88 rfl mv_Model_fails lk_Model_254 rfl (hM.k rfl) rfl rfl rfl (Nat.le_refl _) (Nat.le_refl _) (sp_Model_fails hM) rfl rfl ?_
        refine VW.pick [0, 1, 2, 3, 4, 5, 6, 7] ?_
        exact after _ _ _ (by unfold cd_Model_veil; (repeat' split) <;> first | rfl | (exfalso; omega))
      · try have e30 := bIn c30
        refine VW.iload (pc' := 35) d_Model_veil_33 rfl rfl ?_
        refine VW.cS (pc' := 38) d_Model_veil_35 rfl ms_Model_isValue lk_Model_267 rfl rfl rfl (Nat.le_refl _) (Nat.le_refl _) (sp_Model_isValue) rfl rfl ?_
        refine VW.if_eq (tgt := 45) (pc' := 41) d_Model_veil_38 rfl rfl (fun c38 => ?_) (fun c38 => ?_)
        · try have e38 := bIe c38
          refine VW.iconst (pc' := 46) d_Model_veil_45 rfl (by decide) ?_
          refine VW.istore (pc' := 48) d_Model_veil_46 rfl rfl ?_
          refine VW.aload_n (pc' := 49) d_Model_veil_48 rfl rfl ?_
          refine VW.iload (pc' := 51) d_Model_veil_49 rfl rfl ?_
          refine VW.if_ne (tgt := 58) (pc' := 54) d_Model_veil_51 rfl rfl (fun c51 => absurd c51 (by decide)) (fun _ => ?_)
          refine VW.iconst (pc' := 55) d_Model_veil_54 rfl (by decide) ?_
          refine VW.goto (pc' := 88) d_Model_veil_55 rfl ?_
          refine VW.cV (ci := 11) (T := T11) (N := 94) (pc' := 91) d_Model_veil_88 rfl mv_Model_fails lk_Model_254 rfl (hM.k rfl) rfl rfl rfl (Nat.le_refl _) (Nat.le_refl _) (sp_Model_fails hM) rfl rfl ?_
          refine VW.pick [0, 1, 2, 3, 4, 5, 6, 7] ?_
          exact after _ _ _ (by unfold cd_Model_veil; (repeat' split) <;> first | rfl | (exfalso; omega))
        · try have e38 := bIn c38
          refine VW.iconst (pc' := 42) d_Model_veil_41 rfl (by decide) ?_
          refine VW.goto (pc' := 46) d_Model_veil_42 rfl ?_
          refine VW.istore (pc' := 48) d_Model_veil_46 rfl rfl ?_
          refine VW.aload_n (pc' := 49) d_Model_veil_48 rfl rfl ?_
          refine VW.iload (pc' := 51) d_Model_veil_49 rfl rfl ?_
          refine VW.if_ne (tgt := 58) (pc' := 54) d_Model_veil_51 rfl rfl (fun c51 => absurd c51 (by decide)) (fun _ => ?_)
          refine VW.iconst (pc' := 55) d_Model_veil_54 rfl (by decide) ?_
          refine VW.goto (pc' := 88) d_Model_veil_55 rfl ?_
          refine VW.cV (ci := 11) (T := T11) (N := 94) (pc' := 91) d_Model_veil_88 rfl mv_Model_fails lk_Model_254 rfl (hM.k rfl) rfl rfl rfl (Nat.le_refl _) (Nat.le_refl _) (sp_Model_fails hM) rfl rfl ?_
          refine VW.pick [0, 1, 2, 3, 4, 5, 6, 7] ?_
          exact after _ _ _ (by unfold cd_Model_veil; (repeat' split) <;> first | rfl | (exfalso; omega))
    · try have e15 := bIn c15
      refine VW.iconst (pc' := 19) d_Model_veil_18 rfl (by decide) ?_
      refine VW.goto (pc' := 23) d_Model_veil_19 rfl ?_
      refine VW.istore (pc' := 25) d_Model_veil_23 rfl rfl ?_
      refine VW.iload (pc' := 27) d_Model_veil_25 rfl rfl ?_
      refine VW.cS (pc' := 30) d_Model_veil_27 rfl ms_Model_isHow lk_Model_264 rfl rfl rfl (Nat.le_refl _) (Nat.le_refl _) (sp_Model_isHow) rfl rfl ?_
      refine VW.if_eq (tgt := 45) (pc' := 33) d_Model_veil_30 rfl rfl (fun c30 => ?_) (fun c30 => ?_)
      · try have e30 := bIe c30
        refine VW.iconst (pc' := 46) d_Model_veil_45 rfl (by decide) ?_
        refine VW.istore (pc' := 48) d_Model_veil_46 rfl rfl ?_
        refine VW.aload_n (pc' := 49) d_Model_veil_48 rfl rfl ?_
        refine VW.iload (pc' := 51) d_Model_veil_49 rfl rfl ?_
        refine VW.if_ne (tgt := 58) (pc' := 54) d_Model_veil_51 rfl rfl (fun _ => ?_) (fun c51 => absurd c51 (by decide))
        refine VW.iload (pc' := 60) d_Model_veil_58 rfl rfl ?_
        refine VW.if_ne (tgt := 67) (pc' := 63) d_Model_veil_60 rfl rfl (fun c60 => absurd c60 (by decide)) (fun _ => ?_)
        refine VW.iconst (pc' := 64) d_Model_veil_63 rfl (by decide) ?_
        refine VW.goto (pc' := 88) d_Model_veil_64 rfl ?_
        refine VW.cV (ci := 11) (T := T11) (N := 94) (pc' := 91) d_Model_veil_88 rfl mv_Model_fails lk_Model_254 rfl (hM.k rfl) rfl rfl rfl (Nat.le_refl _) (Nat.le_refl _) (sp_Model_fails hM) rfl rfl ?_
        refine VW.pick [0, 1, 2, 3, 4, 5, 6, 7] ?_
        exact after _ _ _ (by unfold cd_Model_veil; (repeat' split) <;> first | rfl | (exfalso; omega))
      · try have e30 := bIn c30
        refine VW.iload (pc' := 35) d_Model_veil_33 rfl rfl ?_
        refine VW.cS (pc' := 38) d_Model_veil_35 rfl ms_Model_isValue lk_Model_267 rfl rfl rfl (Nat.le_refl _) (Nat.le_refl _) (sp_Model_isValue) rfl rfl ?_
        refine VW.if_eq (tgt := 45) (pc' := 41) d_Model_veil_38 rfl rfl (fun c38 => ?_) (fun c38 => ?_)
        · try have e38 := bIe c38
          refine VW.iconst (pc' := 46) d_Model_veil_45 rfl (by decide) ?_
          refine VW.istore (pc' := 48) d_Model_veil_46 rfl rfl ?_
          refine VW.aload_n (pc' := 49) d_Model_veil_48 rfl rfl ?_
          refine VW.iload (pc' := 51) d_Model_veil_49 rfl rfl ?_
          refine VW.if_ne (tgt := 58) (pc' := 54) d_Model_veil_51 rfl rfl (fun _ => ?_) (fun c51 => absurd c51 (by decide))
          refine VW.iload (pc' := 60) d_Model_veil_58 rfl rfl ?_
          refine VW.if_ne (tgt := 67) (pc' := 63) d_Model_veil_60 rfl rfl (fun c60 => absurd c60 (by decide)) (fun _ => ?_)
          refine VW.iconst (pc' := 64) d_Model_veil_63 rfl (by decide) ?_
          refine VW.goto (pc' := 88) d_Model_veil_64 rfl ?_
          refine VW.cV (ci := 11) (T := T11) (N := 94) (pc' := 91) d_Model_veil_88 rfl mv_Model_fails lk_Model_254 rfl (hM.k rfl) rfl rfl rfl (Nat.le_refl _) (Nat.le_refl _) (sp_Model_fails hM) rfl rfl ?_
          refine VW.pick [0, 1, 2, 3, 4, 5, 6, 7] ?_
          exact after _ _ _ (by unfold cd_Model_veil; (repeat' split) <;> first | rfl | (exfalso; omega))
        · try have e38 := bIn c38
          refine VW.iconst (pc' := 42) d_Model_veil_41 rfl (by decide) ?_
          refine VW.goto (pc' := 46) d_Model_veil_42 rfl ?_
          refine VW.istore (pc' := 48) d_Model_veil_46 rfl rfl ?_
          refine VW.aload_n (pc' := 49) d_Model_veil_48 rfl rfl ?_
          refine VW.iload (pc' := 51) d_Model_veil_49 rfl rfl ?_
          refine VW.if_ne (tgt := 58) (pc' := 54) d_Model_veil_51 rfl rfl (fun _ => ?_) (fun c51 => absurd c51 (by decide))
          refine VW.iload (pc' := 60) d_Model_veil_58 rfl rfl ?_
          refine VW.if_ne (tgt := 67) (pc' := 63) d_Model_veil_60 rfl rfl (fun _ => ?_) (fun c60 => absurd c60 (by decide))
          refine VW.aload_n (pc' := 68) d_Model_veil_67 rfl rfl ?_
          refine VW.gI (ci := 11) (T := T11) (N := 94) (k := 8) (k' := 8) (pc' := 71) d_Model_veil_68 rfl lk_Model_270 in11 rfl rfl rfl rfl (hM.k rfl) (by first | assumption | (simp [up2] <;> rfl) | rfl) ?_
          refine VW.bipush (pc' := 73) d_Model_veil_71 rfl (by decide) ?_
          refine VW.icmp_eq (tgt := 83) (pc' := 76) d_Model_veil_73 rfl rfl (fun c73 => ?_) (fun c73 => ?_)
          · refine VW.iconst (pc' := 84) d_Model_veil_83 rfl (by decide) ?_
            refine VW.goto (pc' := 88) d_Model_veil_84 rfl ?_
            refine VW.cV (ci := 11) (T := T11) (N := 94) (pc' := 91) d_Model_veil_88 rfl mv_Model_fails lk_Model_254 rfl (hM.k rfl) rfl rfl rfl (Nat.le_refl _) (Nat.le_refl _) (sp_Model_fails hM) rfl rfl ?_
            refine VW.pick [0, 1, 2, 3, 4, 5, 6, 7] ?_
            exact after _ _ _ (by unfold cd_Model_veil; (repeat' split) <;> first | rfl | (exfalso; omega))
          · refine VW.aload_n (pc' := 77) d_Model_veil_76 rfl rfl ?_
            refine VW.cV (ci := 11) (T := T11) (N := 94) (pc' := 80) d_Model_veil_77 rfl mv_Model_isUnderWay lk_Model_250 rfl (hM.k rfl) rfl rfl rfl (Nat.le_refl _) (Nat.le_refl _) (sp_under hM hb) rfl rfl ?_
            refine VW.if_eq (tgt := 87) (pc' := 83) d_Model_veil_80 rfl rfl (fun c80 => ?_) (fun c80 => ?_)
            · try have e80 := bIe c80
              refine VW.iconst (pc' := 88) d_Model_veil_87 rfl (by decide) ?_
              refine VW.cV (ci := 11) (T := T11) (N := 94) (pc' := 91) d_Model_veil_88 rfl mv_Model_fails lk_Model_254 rfl (hM.k rfl) rfl rfl rfl (Nat.le_refl _) (Nat.le_refl _) (sp_Model_fails hM) rfl rfl ?_
              refine VW.pick [0, 1, 2, 3, 4, 5, 6, 7] ?_
              exact after _ _ _ (by unfold cd_Model_veil; (repeat' split) <;> first | rfl | (exfalso; omega))
            · try have e80 := bIn c80
              refine VW.iconst (pc' := 84) d_Model_veil_83 rfl (by decide) ?_
              refine VW.goto (pc' := 88) d_Model_veil_84 rfl ?_
              refine VW.cV (ci := 11) (T := T11) (N := 94) (pc' := 91) d_Model_veil_88 rfl mv_Model_fails lk_Model_254 rfl (hM.k rfl) rfl rfl rfl (Nat.le_refl _) (Nat.le_refl _) (sp_Model_fails hM) rfl rfl ?_
              refine VW.pick [0, 1, 2, 3, 4, 5, 6, 7] ?_
              exact after _ _ _ (by unfold cd_Model_veil; (repeat' split) <;> first | rfl | (exfalso; omega))
noncomputable def cd_Model_value (I : IT) (v : Int) : Int := if ¬ (v = -2147483648 ∨ bI (-1000 ≤ v ∧ v ≤ 1000) ≠ 0) then 1 else if I 100 37 = 4 then 2 else 0
noncomputable def f_Model_value  (v : Int) (S : IT) : IT × Int := (up2 (up2 S 238 (S 100 37) v) 100 37 (S 100 37 + 1), S 100 37 + 1)
noncomputable def r_Model_value  (I : IT) (v : Int) : IT × Int := callR (cd_Model_value I v) I (f_Model_value  v)
theorem sp_Model_value {v : Int} (hM : MW K P) (h36 : 0 ≤ I 100 37 ∧ I 100 37 ≤ 4) : Sp m_Model_value false (rmv 2 42) (ex K P J (r_Model_value  I v).1 (.inl (some (vI (r_Model_value  I v).2)))) K P J I [vR (some 100), vI v] := by
  refine Sp.ofV (by decide) (Or.inr rfl) rfl ?_
  have rest : ∀ a : Int, ∀ S : IT, (S = up2 I 100 93 0) → (cd_Model_value I v = 0) → ((I 100 37 ≠ 4)) → VW m_Model_value false (rmv 2 42) (ex K P J (f_Model_value  v S).1 (.inl (some (vI (f_Model_value  v S).2)))) K P J S 0 0 49 [(0, vR (some 100)), (1, vI v), (2, vI a)] [] := by
    intro a S eS hcd q
    have u : ∀ (o : Nat) (k : Int), (o ≠ 100 ∨ k ≠ 93) → S o k = I o k := fun o k h => by rw [eS]; exact if_neg (fun z => h.elim (fun y => y z.1) (fun y => y z.2))
    have u0 : 0 ≤ S 100 37 ∧ S 100 37 < 4 := by rw [u 100 37 (by decide)]; omega
    clear u q
    refine VW.aload_n (pc' := 50) d_Model_value_49 rfl rfl ?_
    refine VW.gP (ci := 11) (T := T11) (N := 94) (k := 38) (k' := 38) (pc' := 53) d_Model_value_50 rfl lk_Model_111 in11 rfl rfl rfl rfl (hM.k rfl) (hM.p (r := some 238) 38 rfl rfl) ?_
    refine VW.aload_n (pc' := 54) d_Model_value_53 rfl rfl ?_
    refine VW.gI (ci := 11) (T := T11) (N := 94) (k := 37) (k' := 37) (pc' := 57) d_Model_value_54 rfl lk_Model_288 in11 rfl rfl rfl rfl (hM.k rfl) (by first | exact up2_eq _ _ _ _ | (simp [up2] <;> rfl) | rfl) ?_
    refine VW.iload_n (pc' := 58) d_Model_value_57 rfl rfl ?_
    refine VW.iast (pc' := 59) d_Model_value_58 rfl (hM.k rfl) (by omega) (by omega) ?_
    refine VW.aload_n (pc' := 60) d_Model_value_59 rfl rfl ?_
    refine VW.dup (pc' := 61) d_Model_value_60 rfl rfl ?_
    refine VW.gI (ci := 11) (T := T11) (N := 94) (k := 37) (k' := 37) (pc' := 64) d_Model_value_61 rfl lk_Model_288 in11 rfl rfl rfl rfl (hM.k rfl) (by first | exact up2_eq _ _ _ _ | (simp [up2] <;> rfl) | rfl) ?_
    refine VW.iconst (pc' := 65) d_Model_value_64 rfl (by decide) ?_
    refine VW.iadd (pc' := 66) d_Model_value_65 rfl (by omega) ?_
    refine VW.pI (ci := 11) (T := T11) (N := 94) (k := 37) (k' := 37) (ty := ty11) (pc' := 69) d_Model_value_66 rfl lk_Model_288 in11 tk11 nm11 rfl rfl rfl rfl rfl rfl (hM.k rfl) ?_
    refine VW.aload_n (pc' := 70) d_Model_value_69 rfl rfl ?_
    refine VW.gI (ci := 11) (T := T11) (N := 94) (k := 37) (k' := 37) (pc' := 73) d_Model_value_70 rfl lk_Model_288 in11 rfl rfl rfl rfl (hM.k rfl) (by first | exact up2_eq _ _ _ _ | (simp [up2] <;> rfl) | rfl) ?_
    exact VW.iret d_Model_value_73 rfl rfl (Nat.zero_le _) (Nat.zero_le _) ex_rf
  have after : ∀ a : Int, ∀ z : Int, z = cd_Model_value I v → VW m_Model_value false (rmv 2 42) (ex K P J (r_Model_value  I v).1 (.inl (some (vI (r_Model_value  I v).2)))) K P J (up2 I 100 93 z) 0 0 44 [(0, vR (some 100)), (1, vI v), (2, vI a)] [vI (bI (0 < z))] := by
    intro a z hz
    unfold r_Model_value
    rw [← hz]
    have q : ¬ 0 < z → (z = 0 ∧ ((I 100 37 ≠ 4))) := by
      intro h0
      have hz' := hz
      unfold cd_Model_value at hz'
      (repeat' split at hz') <;> first | (exfalso; omega) | (refine ⟨by omega, ?_⟩; first | trivial | omega)
    refine VW.if_eq (tgt := 49) (pc' := 47) d_Model_value_44 rfl rfl (fun c44 => ?_) (fun c44 => ?_)
    · try have e44 := bIe c44
      refine VW.nrm ?_
      rw [callR_0 e44]
      have qq := q e44
      have hz2 := hz.symm.trans qq.1
      rw [qq.1]
      exact rest _ _ rfl hz2 qq.2
    · try have e44 := bIn c44
      refine VW.iconst (pc' := 48) d_Model_value_47 rfl (by decide) ?_
      exact VW.iret d_Model_value_48 rfl rfl (Nat.zero_le _) (Nat.zero_le _) (ex_r (callR_1 e44))
  refine VW.iload_n (pc' := 1) d_Model_value_0 rfl rfl ?_
  refine VW.ldc (pc' := 3) (z := -2147483648) d_Model_value_1 rfl lk_Model_246 (by decide) (by decide) ?_
  refine VW.icmp_eq (tgt := 13) (pc' := 6) d_Model_value_3 rfl rfl (fun c3 => ?_) (fun c3 => ?_)
  · refine VW.iconst (pc' := 14) d_Model_value_13 rfl (by decide) ?_
    refine VW.goto (pc' := 18) d_Model_value_14 rfl ?_
    refine VW.istore_n (pc' := 19) d_Model_value_18 rfl rfl ?_
    refine VW.aload_n (pc' := 20) d_Model_value_19 rfl rfl ?_
    refine VW.iload_n (pc' := 21) d_Model_value_20 rfl rfl ?_
    refine VW.if_ne (tgt := 28) (pc' := 24) d_Model_value_21 rfl rfl (fun _ => ?_) (fun c21 => absurd c21 (by decide))
    refine VW.aload_n (pc' := 29) d_Model_value_28 rfl rfl ?_
    refine VW.gI (ci := 11) (T := T11) (N := 94) (k := 37) (k' := 37) (pc' := 32) d_Model_value_29 rfl lk_Model_288 in11 rfl rfl rfl rfl (hM.k rfl) (by first | assumption | (simp [up2] <;> rfl) | rfl) ?_
    refine VW.iconst (pc' := 33) d_Model_value_32 rfl (by decide) ?_
    refine VW.icmp_ne (tgt := 40) (pc' := 36) d_Model_value_33 rfl rfl (fun c33 => ?_) (fun c33 => ?_)
    · refine VW.iconst (pc' := 41) d_Model_value_40 rfl (by decide) ?_
      refine VW.cV (ci := 11) (T := T11) (N := 94) (pc' := 44) d_Model_value_41 rfl mv_Model_fails lk_Model_254 rfl (hM.k rfl) rfl rfl rfl (Nat.le_refl _) (Nat.le_refl _) (sp_Model_fails hM) rfl rfl ?_
      refine VW.pick [0, 1, 2] ?_
      exact after _ _ (by unfold cd_Model_value; (repeat' split) <;> first | rfl | (exfalso; omega))
    · refine VW.iconst (pc' := 37) d_Model_value_36 rfl (by decide) ?_
      refine VW.goto (pc' := 41) d_Model_value_37 rfl ?_
      refine VW.cV (ci := 11) (T := T11) (N := 94) (pc' := 44) d_Model_value_41 rfl mv_Model_fails lk_Model_254 rfl (hM.k rfl) rfl rfl rfl (Nat.le_refl _) (Nat.le_refl _) (sp_Model_fails hM) rfl rfl ?_
      refine VW.pick [0, 1, 2] ?_
      exact after _ _ (by unfold cd_Model_value; (repeat' split) <;> first | rfl | (exfalso; omega))
  · refine VW.iload_n (pc' := 7) d_Model_value_6 rfl rfl ?_
    refine VW.cS (pc' := 10) d_Model_value_7 rfl ms_Model_isValue lk_Model_267 rfl rfl rfl (Nat.le_refl _) (Nat.le_refl _) (sp_Model_isValue) rfl rfl ?_
    refine VW.if_eq (tgt := 17) (pc' := 13) d_Model_value_10 rfl rfl (fun c10 => ?_) (fun c10 => ?_)
    · try have e10 := bIe c10
      refine VW.iconst (pc' := 18) d_Model_value_17 rfl (by decide) ?_
      refine VW.istore_n (pc' := 19) d_Model_value_18 rfl rfl ?_
      refine VW.aload_n (pc' := 20) d_Model_value_19 rfl rfl ?_
      refine VW.iload_n (pc' := 21) d_Model_value_20 rfl rfl ?_
      refine VW.if_ne (tgt := 28) (pc' := 24) d_Model_value_21 rfl rfl (fun c21 => absurd c21 (by decide)) (fun _ => ?_)
      refine VW.iconst (pc' := 25) d_Model_value_24 rfl (by decide) ?_
      refine VW.goto (pc' := 41) d_Model_value_25 rfl ?_
      refine VW.cV (ci := 11) (T := T11) (N := 94) (pc' := 44) d_Model_value_41 rfl mv_Model_fails lk_Model_254 rfl (hM.k rfl) rfl rfl rfl (Nat.le_refl _) (Nat.le_refl _) (sp_Model_fails hM) rfl rfl ?_
      refine VW.pick [0, 1, 2] ?_
      exact after _ _ (by unfold cd_Model_value; (repeat' split) <;> first | rfl | (exfalso; omega))
    · try have e10 := bIn c10
      refine VW.iconst (pc' := 14) d_Model_value_13 rfl (by decide) ?_
      refine VW.goto (pc' := 18) d_Model_value_14 rfl ?_
      refine VW.istore_n (pc' := 19) d_Model_value_18 rfl rfl ?_
      refine VW.aload_n (pc' := 20) d_Model_value_19 rfl rfl ?_
      refine VW.iload_n (pc' := 21) d_Model_value_20 rfl rfl ?_
      refine VW.if_ne (tgt := 28) (pc' := 24) d_Model_value_21 rfl rfl (fun _ => ?_) (fun c21 => absurd c21 (by decide))
      refine VW.aload_n (pc' := 29) d_Model_value_28 rfl rfl ?_
      refine VW.gI (ci := 11) (T := T11) (N := 94) (k := 37) (k' := 37) (pc' := 32) d_Model_value_29 rfl lk_Model_288 in11 rfl rfl rfl rfl (hM.k rfl) (by first | assumption | (simp [up2] <;> rfl) | rfl) ?_
      refine VW.iconst (pc' := 33) d_Model_value_32 rfl (by decide) ?_
      refine VW.icmp_ne (tgt := 40) (pc' := 36) d_Model_value_33 rfl rfl (fun c33 => ?_) (fun c33 => ?_)
      · refine VW.iconst (pc' := 41) d_Model_value_40 rfl (by decide) ?_
        refine VW.cV (ci := 11) (T := T11) (N := 94) (pc' := 44) d_Model_value_41 rfl mv_Model_fails lk_Model_254 rfl (hM.k rfl) rfl rfl rfl (Nat.le_refl _) (Nat.le_refl _) (sp_Model_fails hM) rfl rfl ?_
        refine VW.pick [0, 1, 2] ?_
        exact after _ _ (by unfold cd_Model_value; (repeat' split) <;> first | rfl | (exfalso; omega))
      · refine VW.iconst (pc' := 37) d_Model_value_36 rfl (by decide) ?_
        refine VW.goto (pc' := 41) d_Model_value_37 rfl ?_
        refine VW.cV (ci := 11) (T := T11) (N := 94) (pc' := 44) d_Model_value_41 rfl mv_Model_fails lk_Model_254 rfl (hM.k rfl) rfl rfl rfl (Nat.le_refl _) (Nat.le_refl _) (sp_Model_fails hM) rfl rfl ?_
        refine VW.pick [0, 1, 2] ?_
        exact after _ _ (by unfold cd_Model_value; (repeat' split) <;> first | rfl | (exfalso; omega))
end
