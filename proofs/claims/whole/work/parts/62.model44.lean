section
variable {K : KT} {P : PT} {J I : IT} {Q : PQ}
noncomputable def cd_Model_view (I : IT) (y : Int) : Int := if bI (0 ≤ y ∧ y < I 100 61) = 0 then 1 else if I 100 68 < 6 ∧ bI (mVw I y) ≠ 0 then 0 else 2
noncomputable def f_Model_view  (y : Int) (S : IT) : IT × Int := (up2 (up2 S 269 (S 100 68) y) 100 68 (S 100 68 + 1), S 100 68 + 1 - 1)
noncomputable def r_Model_view  (I : IT) (y : Int) : IT × Int := callR (cd_Model_view I y) I (f_Model_view  y)
theorem sp_Model_view {y : Int} (hM : MW K P) (h61 : 0 ≤ I 100 61 ∧ I 100 61 ≤ 20) (h68 : 0 ≤ I 100 68 ∧ I 100 68 ≤ 6) (hz : ∀ q, 0 ≤ I 262 q ∧ I 262 q ≤ 12) : Sp m_Model_view false (rmv 3 68) (ex K P J (r_Model_view  I y).1 (.inl (some (vI (r_Model_view  I y).2)))) K P J I [vR (some 100), vI y] := by
  refine Sp.ofV (by decide) (Or.inr rfl) rfl ?_
  have rest : ∀ p : Int, ∀ S : IT, (S = up2 I 100 93 0) → (cd_Model_view I y = 0) → ((I 100 68 < 6)) → VW m_Model_view false (rmv 3 68) (ex K P J (f_Model_view  y S).1 (.inl (some (vI (f_Model_view  y S).2)))) K P J S 0 0 45 [(0, vR (some 100)), (1, vI y), (2, vI p)] [] := by
    intro p S eS hcd q
    have u : ∀ (o : Nat) (k : Int), (o ≠ 100 ∨ k ≠ 93) → S o k = I o k := fun o k h => by rw [eS]; exact if_neg (fun z => h.elim (fun y => y z.1) (fun y => y z.2))
    have a68 : 0 ≤ S 100 68 ∧ S 100 68 < 6 := by rw [u 100 68 (by decide)]; omega
    clear u hcd eS
    refine VW.aload_n (pc' := 46) d_Model_view_45 rfl rfl ?_
    refine VW.gP (ci := 11) (T := T11) (N := 94) (k := 69) (k' := 69) (pc' := 49) d_Model_view_46 rfl lk_Model_174 in11 rfl rfl rfl rfl (hM.k rfl) (hM.p (r := some 269) 69 rfl rfl) ?_
    refine VW.aload_n (pc' := 50) d_Model_view_49 rfl rfl ?_
    refine VW.gI (ci := 11) (T := T11) (N := 94) (k := 68) (k' := 68) (pc' := 53) d_Model_view_50 rfl lk_Model_557 in11 rfl rfl rfl rfl (hM.k rfl) (by first | exact up2_eq _ _ _ _ | (simp [up2] <;> rfl) | rfl) ?_
    refine VW.iload_n (pc' := 54) d_Model_view_53 rfl rfl ?_
    refine VW.iast (pc' := 55) d_Model_view_54 rfl (hM.k rfl) (by omega) (by omega) ?_
    refine VW.aload_n (pc' := 56) d_Model_view_55 rfl rfl ?_
    refine VW.dup (pc' := 57) d_Model_view_56 rfl rfl ?_
    refine VW.gI (ci := 11) (T := T11) (N := 94) (k := 68) (k' := 68) (pc' := 60) d_Model_view_57 rfl lk_Model_557 in11 rfl rfl rfl rfl (hM.k rfl) (by first | exact up2_eq _ _ _ _ | (simp [up2] <;> rfl) | rfl) ?_
    refine VW.iconst (pc' := 61) d_Model_view_60 rfl (by decide) ?_
    refine VW.iadd (pc' := 62) d_Model_view_61 rfl (by omega) ?_
    refine VW.pI (ci := 11) (T := T11) (N := 94) (k := 68) (k' := 68) (ty := ty11) (pc' := 65) d_Model_view_62 rfl lk_Model_557 in11 tk11 nm11 rfl rfl rfl rfl rfl rfl (hM.k rfl) ?_
    refine VW.aload_n (pc' := 66) d_Model_view_65 rfl rfl ?_
    refine VW.gI (ci := 11) (T := T11) (N := 94) (k := 68) (k' := 68) (pc' := 69) d_Model_view_66 rfl lk_Model_557 in11 rfl rfl rfl rfl (hM.k rfl) (by first | exact up2_eq _ _ _ _ | (simp [up2] <;> rfl) | rfl) ?_
    refine VW.iconst (pc' := 70) d_Model_view_69 rfl (by decide) ?_
    refine VW.isub (pc' := 71) d_Model_view_70 rfl (by omega) ?_
    exact VW.iret d_Model_view_71 rfl rfl (Nat.zero_le _) (Nat.zero_le _) ex_rf
  have after : ∀ p : Int, ∀ z : Int, z = cd_Model_view I y → VW m_Model_view false (rmv 3 68) (ex K P J (r_Model_view  I y).1 (.inl (some (vI (r_Model_view  I y).2)))) K P J (up2 I 100 93 z) 0 0 40 [(0, vR (some 100)), (1, vI y), (2, vI p)] [vI (bI (0 < z))] := by
    intro p z hz
    unfold r_Model_view
    rw [← hz]
    have q : ¬ 0 < z → (z = 0 ∧ ((I 100 68 < 6))) := by
      intro h0
      have hz' := hz
      unfold cd_Model_view at hz'
      (repeat' split at hz') <;> first | (exfalso; omega) | (refine ⟨by omega, ?_⟩; first | trivial | omega)
    refine VW.if_eq (tgt := 45) (pc' := 43) d_Model_view_40 rfl rfl (fun c40 => ?_) (fun c40 => ?_)
    · try have e40 := bIe c40
      refine VW.nrm ?_
      rw [callR_0 e40]
      have qq := q e40
      have hz2 := hz.symm.trans qq.1
      rw [qq.1]
      exact rest _ _ rfl hz2 qq.2
    · try have e40 := bIn c40
      refine VW.iconst (pc' := 44) d_Model_view_43 rfl (by decide) ?_
      exact VW.iret d_Model_view_44 rfl rfl (Nat.zero_le _) (Nat.zero_le _) (ex_r (callR_1 e40))
  refine VW.aload_n (pc' := 1) d_Model_view_0 rfl rfl ?_
  refine VW.iload_n (pc' := 2) d_Model_view_1 rfl rfl ?_
  refine VW.cV (ci := 11) (T := T11) (N := 94) (pc' := 5) d_Model_view_2 rfl mv_Model_isQuery lk_Model_486 rfl (hM.k rfl) rfl rfl rfl (Nat.le_refl _) (Nat.le_refl _) (sp_Model_isQuery hM h61.1) rfl rfl ?_
  refine VW.istore_n (pc' := 6) d_Model_view_5 rfl rfl ?_
  refine VW.aload_n (pc' := 7) d_Model_view_6 rfl rfl ?_
  refine VW.iload_n (pc' := 8) d_Model_view_7 rfl rfl ?_
  refine VW.if_ne (tgt := 15) (pc' := 11) d_Model_view_8 rfl rfl (fun c8 => ?_) (fun c8 => ?_)
  · try have e8 := bIn c8
    have x7 := bIn c8
    refine VW.aload_n (pc' := 16) d_Model_view_15 rfl rfl ?_
    refine VW.gI (ci := 11) (T := T11) (N := 94) (k := 68) (k' := 68) (pc' := 19) d_Model_view_16 rfl lk_Model_557 in11 rfl rfl rfl rfl (hM.k rfl) (by first | assumption | (simp [up2] <;> rfl) | rfl) ?_
    refine VW.bipush (pc' := 21) d_Model_view_19 rfl (by decide) ?_
    refine VW.icmp_ge (tgt := 36) (pc' := 24) d_Model_view_21 rfl rfl (fun c21 => ?_) (fun c21 => ?_)
    · refine VW.iconst (pc' := 37) d_Model_view_36 rfl (by decide) ?_
      refine VW.cV (ci := 11) (T := T11) (N := 94) (pc' := 40) d_Model_view_37 rfl mv_Model_fails lk_Model_254 rfl (hM.k rfl) rfl rfl rfl (Nat.le_refl _) (Nat.le_refl _) (sp_Model_fails hM) rfl rfl ?_
      refine VW.pick [0, 1, 2] ?_
      exact after _ _ (by unfold cd_Model_view; (repeat' split) <;> first | rfl | (exfalso; omega))
    · refine VW.aload_n (pc' := 25) d_Model_view_24 rfl rfl ?_
      refine VW.iload_n (pc' := 26) d_Model_view_25 rfl rfl ?_
      refine VW.cV (ci := 11) (T := T11) (N := 94) (pc' := 29) d_Model_view_26 rfl mv_Model_canBeView lk_Model_560 rfl (hM.k rfl) rfl rfl rfl (Nat.le_refl _) (Nat.le_refl _) (sp_Model_canBeView hM ⟨x7.1, by omega⟩ (hz y)) rfl rfl ?_
      refine VW.if_eq (tgt := 36) (pc' := 32) d_Model_view_29 rfl rfl (fun c29 => ?_) (fun c29 => ?_)
      · try have e29 := bIe c29
        refine VW.iconst (pc' := 37) d_Model_view_36 rfl (by decide) ?_
        refine VW.cV (ci := 11) (T := T11) (N := 94) (pc' := 40) d_Model_view_37 rfl mv_Model_fails lk_Model_254 rfl (hM.k rfl) rfl rfl rfl (Nat.le_refl _) (Nat.le_refl _) (sp_Model_fails hM) rfl rfl ?_
        refine VW.pick [0, 1, 2] ?_
        exact after _ _ (by unfold cd_Model_view; (repeat' split) <;> first | rfl | (exfalso; omega))
      · try have e29 := bIn c29
        refine VW.iconst (pc' := 33) d_Model_view_32 rfl (by decide) ?_
        refine VW.goto (pc' := 37) d_Model_view_33 rfl ?_
        refine VW.cV (ci := 11) (T := T11) (N := 94) (pc' := 40) d_Model_view_37 rfl mv_Model_fails lk_Model_254 rfl (hM.k rfl) rfl rfl rfl (Nat.le_refl _) (Nat.le_refl _) (sp_Model_fails hM) rfl rfl ?_
        refine VW.pick [0, 1, 2] ?_
        exact after _ _ (by unfold cd_Model_view; (repeat' split) <;> first | rfl | (exfalso; omega))
  · try have e8 := bIe c8
    refine VW.iconst (pc' := 12) d_Model_view_11 rfl (by decide) ?_
    refine VW.goto (pc' := 37) d_Model_view_12 rfl ?_
    refine VW.cV (ci := 11) (T := T11) (N := 94) (pc' := 40) d_Model_view_37 rfl mv_Model_fails lk_Model_254 rfl (hM.k rfl) rfl rfl rfl (Nat.le_refl _) (Nat.le_refl _) (sp_Model_fails hM) rfl rfl ?_
    refine VW.pick [0, 1, 2] ?_
    exact after _ _ (by unfold cd_Model_view; (repeat' split) <;> first | rfl | (exfalso; omega))
noncomputable def cd_Model_planAt (I : IT) (y a : Int) : Int := if bI (0 ≤ y ∧ y < I 100 61) = 0 then 1 else if I 263 y ≠ 0 then 0 else 2
noncomputable def f_Model_planAt  (y a : Int) (S : IT) : IT × Int := (S, if bI (0 ≤ a ∧ a ≤ S 265 y - 1) ≠ 0 then S 266 (4 * y + a) else -1)
noncomputable def r_Model_planAt  (I : IT) (y a : Int) : IT × Int := callR (cd_Model_planAt I y a) I (f_Model_planAt  y a)
theorem sp_Model_planAt {y a : Int} (hM : MW K P) (h61 : 0 ≤ I 100 61 ∧ I 100 61 ≤ 20) (h65 : ∀ q, 0 ≤ I 265 q ∧ I 265 q ≤ 3) : Sp m_Model_planAt false (rmv 2 43) (ex K P J (r_Model_planAt  I y a).1 (.inl (some (vI (r_Model_planAt  I y a).2)))) K P J I [vR (some 100), vI y, vI a] := by
  refine Sp.ofV (by decide) (Or.inr rfl) rfl ?_
  have rest : ∀ S : IT, (S = up2 I 100 93 0) → (cd_Model_planAt I y a = 0) → ((bI (0 ≤ y ∧ y < I 100 61) ≠ 0)) → VW m_Model_planAt false (rmv 2 43) (ex K P J (f_Model_planAt  y a S).1 (.inl (some (vI (f_Model_planAt  y a S).2)))) K P J S 0 0 35 [(0, vR (some 100)), (1, vI y), (2, vI a)] [] := by
    intro S eS hcd q
    have u : ∀ (o : Nat) (k : Int), (o ≠ 100 ∨ k ≠ 93) → S o k = I o k := fun o k h => by rw [eS]; exact if_neg (fun z => h.elim (fun y => y z.1) (fun y => y z.2))
    have x1 := bIn q
    have x2 := h65 y
    rw [← u 265 y (Or.inl (by decide))] at x2
    clear u hcd eS
    refine VW.iload_n (pc' := 36) d_Model_planAt_35 rfl rfl ?_
    refine VW.iconst (pc' := 37) d_Model_planAt_36 rfl (by decide) ?_
    refine VW.aload_n (pc' := 38) d_Model_planAt_37 rfl rfl ?_
    refine VW.gP (ci := 11) (T := T11) (N := 94) (k := 65) (k' := 65) (pc' := 41) d_Model_planAt_38 rfl lk_Model_168 in11 rfl rfl rfl rfl (hM.k rfl) (hM.p (r := some 265) 65 rfl rfl) ?_
    refine VW.iload_n (pc' := 42) d_Model_planAt_41 rfl rfl ?_
    refine VW.ild (pc' := 43) d_Model_planAt_42 rfl (hM.k rfl) (by omega) (by omega) (by first | assumption | (simp [up2] <;> rfl) | rfl) ?_
    refine VW.iconst (pc' := 44) d_Model_planAt_43 rfl (by decide) ?_
    refine VW.isub (pc' := 45) d_Model_planAt_44 rfl (by omega) ?_
    refine VW.cS (pc' := 48) d_Model_planAt_45 rfl ms_Model_isIn lk_Model_235 rfl rfl rfl (Nat.le_refl _) (Nat.le_refl _) (sp_Model_isIn) rfl rfl ?_
    refine VW.if_eq (tgt := 64) (pc' := 51) d_Model_planAt_48 rfl rfl (fun c48 => ?_) (fun c48 => ?_)
    · try have e48 := bIe c48
      refine VW.iconst (pc' := 65) d_Model_planAt_64 rfl (by decide) ?_
      exact VW.iret d_Model_planAt_65 rfl rfl (Nat.zero_le _) (Nat.zero_le _) (by first | exact ex_r (by show (S, ite _ _ _) = _; rw [if_pos c48]) | exact ex_r (by show (S, ite _ _ _) = _; rw [if_neg (fun z => z c48)]))
    · try have e48 := bIn c48
      have x3 := bIn c48
      refine VW.aload_n (pc' := 52) d_Model_planAt_51 rfl rfl ?_
      refine VW.gP (ci := 11) (T := T11) (N := 94) (k := 66) (k' := 66) (pc' := 55) d_Model_planAt_52 rfl lk_Model_171 in11 rfl rfl rfl rfl (hM.k rfl) (hM.p (r := some 266) 66 rfl rfl) ?_
      refine VW.iconst (pc' := 56) d_Model_planAt_55 rfl (by decide) ?_
      refine VW.iload_n (pc' := 57) d_Model_planAt_56 rfl rfl ?_
      refine VW.imul (pc' := 58) d_Model_planAt_57 rfl (by omega) ?_
      refine VW.iload_n (pc' := 59) d_Model_planAt_58 rfl rfl ?_
      refine VW.iadd (pc' := 60) d_Model_planAt_59 rfl (by omega) ?_
      refine VW.ild (pc' := 61) d_Model_planAt_60 rfl (hM.k rfl) (by omega) (by omega) (by first | assumption | (simp [up2] <;> rfl) | rfl) ?_
      refine VW.goto (pc' := 65) d_Model_planAt_61 rfl ?_
      exact VW.iret d_Model_planAt_65 rfl rfl (Nat.zero_le _) (Nat.zero_le _) (by first | exact ex_r (by show (S, ite _ _ _) = _; rw [if_pos c48]) | exact ex_r (by show (S, ite _ _ _) = _; rw [if_neg (fun z => z c48)]))
  have after : ∀ z : Int, z = cd_Model_planAt I y a → VW m_Model_planAt false (rmv 2 43) (ex K P J (r_Model_planAt  I y a).1 (.inl (some (vI (r_Model_planAt  I y a).2)))) K P J (up2 I 100 93 z) 0 0 30 [(0, vR (some 100)), (1, vI y), (2, vI a)] [vI (bI (0 < z))] := by
    intro z hz
    unfold r_Model_planAt
    rw [← hz]
    have q : ¬ 0 < z → (z = 0 ∧ ((bI (0 ≤ y ∧ y < I 100 61) ≠ 0))) := by
      intro h0
      have hz' := hz
      unfold cd_Model_planAt at hz'
      (repeat' split at hz') <;> first | (exfalso; omega) | (refine ⟨by omega, ?_⟩; first | trivial | omega)
    refine VW.if_eq (tgt := 35) (pc' := 33) d_Model_planAt_30 rfl rfl (fun c30 => ?_) (fun c30 => ?_)
    · try have e30 := bIe c30
      refine VW.nrm ?_
      rw [callR_0 e30]
      have qq := q e30
      have hz2 := hz.symm.trans qq.1
      rw [qq.1]
      exact rest _ rfl hz2 qq.2
    · try have e30 := bIn c30
      refine VW.iconst (pc' := 34) d_Model_planAt_33 rfl (by decide) ?_
      exact VW.iret d_Model_planAt_34 rfl rfl (Nat.zero_le _) (Nat.zero_le _) (ex_r (callR_1 e30))
  refine VW.aload_n (pc' := 1) d_Model_planAt_0 rfl rfl ?_
  refine VW.aload_n (pc' := 2) d_Model_planAt_1 rfl rfl ?_
  refine VW.iload_n (pc' := 3) d_Model_planAt_2 rfl rfl ?_
  refine VW.cV (ci := 11) (T := T11) (N := 94) (pc' := 6) d_Model_planAt_3 rfl mv_Model_isQuery lk_Model_486 rfl (hM.k rfl) rfl rfl rfl (Nat.le_refl _) (Nat.le_refl _) (sp_Model_isQuery hM h61.1) rfl rfl ?_
  refine VW.if_ne (tgt := 13) (pc' := 9) d_Model_planAt_6 rfl rfl (fun c6 => ?_) (fun c6 => ?_)
  · try have e6 := bIn c6
    have x7 := bIn c6
    refine VW.aload_n (pc' := 14) d_Model_planAt_13 rfl rfl ?_
    refine VW.gP (ci := 11) (T := T11) (N := 94) (k := 63) (k' := 63) (pc' := 17) d_Model_planAt_14 rfl lk_Model_162 in11 rfl rfl rfl rfl (hM.k rfl) (hM.p (r := some 263) 63 rfl rfl) ?_
    refine VW.iload_n (pc' := 18) d_Model_planAt_17 rfl rfl ?_
    refine VW.zld (pc' := 19) d_Model_planAt_18 rfl (hM.k rfl) (by omega) (by omega) (by first | assumption | (simp [up2] <;> rfl) | rfl) ?_
    refine VW.if_eq (tgt := 26) (pc' := 22) d_Model_planAt_19 rfl rfl (fun c19 => ?_) (fun c19 => ?_)
    · try have e19 := bIe c19
      refine VW.iconst (pc' := 27) d_Model_planAt_26 rfl (by decide) ?_
      refine VW.cV (ci := 11) (T := T11) (N := 94) (pc' := 30) d_Model_planAt_27 rfl mv_Model_fails lk_Model_254 rfl (hM.k rfl) rfl rfl rfl (Nat.le_refl _) (Nat.le_refl _) (sp_Model_fails hM) rfl rfl ?_
      refine VW.pick [0, 1, 2] ?_
      exact after _ (by unfold cd_Model_planAt; (repeat' split) <;> first | rfl | (exfalso; omega))
    · try have e19 := bIn c19
      refine VW.iconst (pc' := 23) d_Model_planAt_22 rfl (by decide) ?_
      refine VW.goto (pc' := 27) d_Model_planAt_23 rfl ?_
      refine VW.cV (ci := 11) (T := T11) (N := 94) (pc' := 30) d_Model_planAt_27 rfl mv_Model_fails lk_Model_254 rfl (hM.k rfl) rfl rfl rfl (Nat.le_refl _) (Nat.le_refl _) (sp_Model_fails hM) rfl rfl ?_
      refine VW.pick [0, 1, 2] ?_
      exact after _ (by unfold cd_Model_planAt; (repeat' split) <;> first | rfl | (exfalso; omega))
  · try have e6 := bIe c6
    refine VW.iconst (pc' := 10) d_Model_planAt_9 rfl (by decide) ?_
    refine VW.goto (pc' := 27) d_Model_planAt_10 rfl ?_
    refine VW.cV (ci := 11) (T := T11) (N := 94) (pc' := 30) d_Model_planAt_27 rfl mv_Model_fails lk_Model_254 rfl (hM.k rfl) rfl rfl rfl (Nat.le_refl _) (Nat.le_refl _) (sp_Model_fails hM) rfl rfl ?_
    refine VW.pick [0, 1, 2] ?_
    exact after _ (by unfold cd_Model_planAt; (repeat' split) <;> first | rfl | (exfalso; omega))
/-- the leaf that a column of the block is of -/
def mLeaf (I : IT) (c : Int) : Nat → Int
  | 0 => 0
  | n + 1 => if I 286 n ≤ c then n else mLeaf I c n
theorem mLeaf_1 {c : Int} {n : Nat} (h : I 286 n ≤ c) : (n : Int) = mLeaf I c (n + 1) := (if_pos h).symm
theorem mLeaf_0 {c : Int} {n : Nat} (h : ¬ I 286 n ≤ c) : mLeaf I c n = mLeaf I c (n + 1) := (if_neg h).symm
theorem mLeaf_rg (c : Int) : ∀ n : Nat, 0 ≤ mLeaf I c n ∧ (mLeaf I c n < n ∨ n = 0) := by
  intro n
  induction n with
  | zero => exact ⟨Int.le_refl _, Or.inr rfl⟩
  | succ n ih =>
    by_cases h : I 286 n ≤ c
    · rw [← mLeaf_1 h]; omega
    · rw [← mLeaf_0 h]
      refine ⟨ih.1, Or.inl ?_⟩
      rcases ih.2 with z | z
      · omega
      · subst z; show (0 : Int) < _; omega
theorem sp_Model_leafOf {c : Int} (hM : MW K P) (h0 : 0 ≤ I 100 84 ∧ I 100 84 ≤ 4) : Sp m_Model_leafOf false (rmv 0 0) (ex K P J I (.inl (some (vI (mLeaf I c (I 100 84).toNat))))) K P J I [vR (some 100), vI c] := by
  refine Sp.ofV (by decide) (Or.inr rfl) rfl ?_
  have loop : ∀ (l m : Nat), m + l = I 100 84 → VW m_Model_leafOf false (rmv 0 0) (ex K P J I (.inl (some (vI (mLeaf I c (I 100 84).toNat))))) K P J I 0 0 4 [(0, vR (some 100)), (1, vI c), (2, vI (mLeaf I c m)), (3, vI (m : Int))] [] := by
    intro l
    induction l with
    | zero =>
      intro m hm
      have em : (I 100 84).toNat = m := by omega
      rw [em]
      refine VW.iload_n (pc' := 5) d_Model_leafOf_4 rfl rfl ?_
      refine VW.aload_n (pc' := 6) d_Model_leafOf_5 rfl rfl ?_
      refine VW.gI (ci := 11) (T := T11) (N := 94) (k := 84) (k' := 84) (pc' := 9) d_Model_leafOf_6 rfl lk_Model_510 in11 rfl rfl rfl rfl (hM.k rfl) (by first | assumption | (simp [up2] <;> rfl) | rfl) ?_
      refine VW.icmp_ge (tgt := 34) (pc' := 12) d_Model_leafOf_9 rfl rfl (fun c9 => ?_) (fun c9 => ?_)
      · refine VW.iload_n (pc' := 35) d_Model_leafOf_34 rfl rfl ?_
        exact VW.iret d_Model_leafOf_35 rfl rfl (Nat.zero_le _) (Nat.zero_le _) ex_rf
      · exfalso; omega
    | succ l ih =>
      intro m hm
      have ih1 := ih (m + 1) (by omega)
      have em : ((m + 1 : Nat) : Int) = (m : Int) + 1 := by omega
      rw [em] at ih1
      have y := fun (z : I 286 m ≤ c) => mLeaf_1 z
      have n := fun (z : ¬ I 286 m ≤ c) => mLeaf_0 z
      clear ih
      refine VW.iload_n (pc' := 5) d_Model_leafOf_4 rfl rfl ?_
      refine VW.aload_n (pc' := 6) d_Model_leafOf_5 rfl rfl ?_
      refine VW.gI (ci := 11) (T := T11) (N := 94) (k := 84) (k' := 84) (pc' := 9) d_Model_leafOf_6 rfl lk_Model_510 in11 rfl rfl rfl rfl (hM.k rfl) (rfl) ?_
      refine VW.icmp_ge (tgt := 34) (pc' := 12) d_Model_leafOf_9 rfl rfl (fun c9 => ?_) (fun c9 => ?_)
      · exfalso; omega
      · refine VW.aload_n (pc' := 13) d_Model_leafOf_12 rfl rfl ?_
        refine VW.gP (ci := 11) (T := T11) (N := 94) (k := 86) (k' := 86) (pc' := 16) d_Model_leafOf_13 rfl lk_Model_212 in11 rfl rfl rfl rfl (hM.k rfl) (hM.p (r := some 286) 86 rfl rfl) ?_
        refine VW.iload_n (pc' := 17) d_Model_leafOf_16 rfl rfl ?_
        refine VW.ild (pc' := 18) d_Model_leafOf_17 rfl (hM.k rfl) (by omega) (by omega) (rfl) ?_
        refine VW.iload_n (pc' := 19) d_Model_leafOf_18 rfl rfl ?_
        refine VW.icmp_gt (tgt := 26) (pc' := 22) d_Model_leafOf_19 rfl rfl (fun c19 => ?_) (fun c19 => ?_)
        · refine VW.iload_n (pc' := 27) d_Model_leafOf_26 rfl rfl ?_
          refine VW.istore_n (pc' := 28) d_Model_leafOf_27 rfl rfl ?_
          refine VW.iinc (pc' := 31) d_Model_leafOf_28 rfl rfl rfl (by omega) ?_
          refine VW.goto (pc' := 4) d_Model_leafOf_31 rfl ?_
          refine VW.nrm ?_
          first | (rw [← y (by omega)] at ih1; exact ih1) | (rw [← n (by omega)] at ih1; exact ih1)
        · refine VW.iload_n (pc' := 23) d_Model_leafOf_22 rfl rfl ?_
          refine VW.goto (pc' := 27) d_Model_leafOf_23 rfl ?_
          refine VW.istore_n (pc' := 28) d_Model_leafOf_27 rfl rfl ?_
          refine VW.iinc (pc' := 31) d_Model_leafOf_28 rfl rfl rfl (by omega) ?_
          refine VW.goto (pc' := 4) d_Model_leafOf_31 rfl ?_
          refine VW.nrm ?_
          first | (rw [← y (by omega)] at ih1; exact ih1) | (rw [← n (by omega)] at ih1; exact ih1)
  have l := loop (I 100 84).toNat 0 (by omega)
  clear loop
  refine VW.iconst (pc' := 1) d_Model_leafOf_0 rfl (by decide) ?_
  refine VW.istore_n (pc' := 2) d_Model_leafOf_1 rfl rfl ?_
  refine VW.iconst (pc' := 3) d_Model_leafOf_2 rfl (by decide) ?_
  refine VW.istore_n (pc' := 4) d_Model_leafOf_3 rfl rfl ?_
  refine VW.nrm ?_
  exact l
theorem ex_vJ {v v' : Int} (h : v = v') : ex K P J I (.inl (some (vJ v))) (.inl (some (vJ v'))) K P J I := by subst h; exact ex_rf
/-- an estimate never falls below 1 by a division -/
def mDiv (v b : Int) : Int := if v.tdiv (if b = 0 then 1 else b) < 1 then 1 else v.tdiv (if b = 0 then 1 else b)
theorem mDiv_e {v b d g : Int} (hd : d = if b = 0 then 1 else b) (hg : (g = 1 ∧ v.tdiv d < 1) ∨ (g = v.tdiv d ∧ ¬ v.tdiv d < 1)) : mDiv v b = g := by
  unfold mDiv
  rw [← hd]
  rcases hg with ⟨a, c⟩ | ⟨a, c⟩
  · rw [if_pos c, a]
  · rw [if_neg c, a]
theorem mDiv_rg {v b : Int} (hv : 0 ≤ v) (hb : 0 ≤ b) : 1 ≤ mDiv v b ∧ (mDiv v b ≤ v ∨ mDiv v b = 1) := by
  have hd : ∃ d, d = (if b = 0 then 1 else b) := ⟨_, rfl⟩
  obtain ⟨d, hd⟩ := hd
  have h1 : 1 ≤ d := by rw [hd]; split <;> omega
  have h2 : 0 ≤ v.tdiv d ∧ v.tdiv d ≤ v := by
    rw [Int.tdiv_eq_ediv_of_nonneg hv]
    exact ⟨Int.ediv_nonneg hv (by omega), Int.ediv_le_self _ hv⟩
  by_cases h : v.tdiv d < 1
  · rw [mDiv_e hd (Or.inl ⟨rfl, h⟩)]; omega
  · rw [mDiv_e hd (Or.inr ⟨rfl, h⟩)]; omega
theorem sp_Model_divided {v b : Int} (hv : 0 ≤ v ∧ v ≤ 1000000) (hb : 0 ≤ b) : Sp m_Model_divided false (rmv 0 0) (ex K P J I (.inl (some (vJ (mDiv v b))))) K P J I [vJ v, vI b] := by
  refine Sp.ofV (by decide) (Or.inr rfl) rfl ?_
  have rg : ∀ d : Int, 1 ≤ d → 0 ≤ v.tdiv d ∧ v.tdiv d ≤ v := fun d hd => by
    rw [Int.tdiv_eq_ediv_of_nonneg hv.1]
    exact ⟨Int.ediv_nonneg hv.1 (by omega), Int.ediv_le_self _ hv.1⟩
  have r1 := rg 1 (by omega)
  have rb := fun (z : b ≠ 0) => rg b (by omega)
  refine VW.lload_n (pc' := 1) d_Model_divided_0 rfl rfl ?_
  refine VW.iload_n (pc' := 2) d_Model_divided_1 rfl rfl ?_
  refine VW.if_ne (tgt := 9) (pc' := 5) d_Model_divided_2 rfl rfl (fun c2 => ?_) (fun c2 => ?_)
  · try have e2 := bIn c2
    refine VW.iload_n (pc' := 10) d_Model_divided_9 rfl rfl ?_
    refine VW.i2l (pc' := 11) d_Model_divided_10 rfl ?_
    refine VW.ldiv (pc' := 12) d_Model_divided_11 rfl (by omega) (by first | omega | (have q := rb c2; omega)) ?_
    refine VW.lstore_n (pc' := 13) d_Model_divided_12 rfl rfl ?_
    refine VW.lload_n (pc' := 14) d_Model_divided_13 rfl rfl ?_
    refine VW.lconst (pc' := 15) (z := 1) d_Model_divided_14 rfl (by decide) (by decide) ?_
    refine VW.lcmp (pc' := 16) d_Model_divided_15 rfl ?_
    refine VW.if_ge (tgt := 23) (pc' := 19) d_Model_divided_16 rfl rfl (fun c16 => ?_) (fun c16 => ?_)
    · refine VW.lload_n (pc' := 24) d_Model_divided_23 rfl rfl ?_
      exact VW.lret d_Model_divided_24 rfl (Nat.zero_le _) (Nat.zero_le _) (by first | (refine ex_vJ (mDiv_e (d := 1) (if_pos (by omega)).symm ?_); split at c16 <;> first | (exfalso; omega) | exact Or.inl ⟨rfl, by omega⟩ | exact Or.inr ⟨rfl, by omega⟩ | (split at c16 <;> first | (exfalso; omega) | exact Or.inl ⟨rfl, by omega⟩ | exact Or.inr ⟨rfl, by omega⟩)) | (refine ex_vJ (mDiv_e (d := b) (if_neg c2).symm ?_); split at c16 <;> first | (exfalso; omega) | exact Or.inl ⟨rfl, by omega⟩ | exact Or.inr ⟨rfl, by omega⟩ | (split at c16 <;> first | (exfalso; omega) | exact Or.inl ⟨rfl, by omega⟩ | exact Or.inr ⟨rfl, by omega⟩)))
    · refine VW.lconst (pc' := 20) (z := 1) d_Model_divided_19 rfl (by decide) (by decide) ?_
      refine VW.goto (pc' := 24) d_Model_divided_20 rfl ?_
      exact VW.lret d_Model_divided_24 rfl (Nat.zero_le _) (Nat.zero_le _) (by first | (refine ex_vJ (mDiv_e (d := 1) (if_pos (by omega)).symm ?_); split at c16 <;> first | (exfalso; omega) | exact Or.inl ⟨rfl, by omega⟩ | exact Or.inr ⟨rfl, by omega⟩ | (split at c16 <;> first | (exfalso; omega) | exact Or.inl ⟨rfl, by omega⟩ | exact Or.inr ⟨rfl, by omega⟩)) | (refine ex_vJ (mDiv_e (d := b) (if_neg c2).symm ?_); split at c16 <;> first | (exfalso; omega) | exact Or.inl ⟨rfl, by omega⟩ | exact Or.inr ⟨rfl, by omega⟩ | (split at c16 <;> first | (exfalso; omega) | exact Or.inl ⟨rfl, by omega⟩ | exact Or.inr ⟨rfl, by omega⟩)))
  · try have e2 := bIe c2
    refine VW.iconst (pc' := 6) d_Model_divided_5 rfl (by decide) ?_
    refine VW.goto (pc' := 10) d_Model_divided_6 rfl ?_
    refine VW.i2l (pc' := 11) d_Model_divided_10 rfl ?_
    refine VW.ldiv (pc' := 12) d_Model_divided_11 rfl (by omega) (by first | omega | (have q := rb c2; omega)) ?_
    refine VW.lstore_n (pc' := 13) d_Model_divided_12 rfl rfl ?_
    refine VW.lload_n (pc' := 14) d_Model_divided_13 rfl rfl ?_
    refine VW.lconst (pc' := 15) (z := 1) d_Model_divided_14 rfl (by decide) (by decide) ?_
    refine VW.lcmp (pc' := 16) d_Model_divided_15 rfl ?_
    refine VW.if_ge (tgt := 23) (pc' := 19) d_Model_divided_16 rfl rfl (fun c16 => ?_) (fun c16 => ?_)
    · refine VW.lload_n (pc' := 24) d_Model_divided_23 rfl rfl ?_
      exact VW.lret d_Model_divided_24 rfl (Nat.zero_le _) (Nat.zero_le _) (by first | (refine ex_vJ (mDiv_e (d := 1) (if_pos (by omega)).symm ?_); split at c16 <;> first | (exfalso; omega) | exact Or.inl ⟨rfl, by omega⟩ | exact Or.inr ⟨rfl, by omega⟩ | (split at c16 <;> first | (exfalso; omega) | exact Or.inl ⟨rfl, by omega⟩ | exact Or.inr ⟨rfl, by omega⟩)) | (refine ex_vJ (mDiv_e (d := b) (if_neg c2).symm ?_); split at c16 <;> first | (exfalso; omega) | exact Or.inl ⟨rfl, by omega⟩ | exact Or.inr ⟨rfl, by omega⟩ | (split at c16 <;> first | (exfalso; omega) | exact Or.inl ⟨rfl, by omega⟩ | exact Or.inr ⟨rfl, by omega⟩)))
    · refine VW.lconst (pc' := 20) (z := 1) d_Model_divided_19 rfl (by decide) (by decide) ?_
      refine VW.goto (pc' := 24) d_Model_divided_20 rfl ?_
      exact VW.lret d_Model_divided_24 rfl (Nat.zero_le _) (Nat.zero_le _) (by first | (refine ex_vJ (mDiv_e (d := 1) (if_pos (by omega)).symm ?_); split at c16 <;> first | (exfalso; omega) | exact Or.inl ⟨rfl, by omega⟩ | exact Or.inr ⟨rfl, by omega⟩ | (split at c16 <;> first | (exfalso; omega) | exact Or.inl ⟨rfl, by omega⟩ | exact Or.inr ⟨rfl, by omega⟩)) | (refine ex_vJ (mDiv_e (d := b) (if_neg c2).symm ?_); split at c16 <;> first | (exfalso; omega) | exact Or.inl ⟨rfl, by omega⟩ | exact Or.inr ⟨rfl, by omega⟩ | (split at c16 <;> first | (exfalso; omega) | exact Or.inl ⟨rfl, by omega⟩ | exact Or.inr ⟨rfl, by omega⟩)))
end
