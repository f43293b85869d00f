section
variable {K : KT} {P : PT} {J I : IT}
theorem MB.u93 {S : IT} (h : MB I) (u : ∀ (o : Nat) (k : Int), (o ≠ 100 ∨ k ≠ 93) → S o k = I o k) : MB S :=
  h.of (u 100 0 (by decide)) (u 100 8 (by decide)) (u 100 19 (by decide)) (fun k => u 201 k (Or.inl (by decide))) (fun k => u 202 k (Or.inl (by decide))) (fun k => u 206 k (Or.inl (by decide))) (fun k => u 211 k (Or.inl (by decide))) (fun k => by rw [u 214 k (Or.inl (by decide))]; exact h.row k) (fun k => u 223 k (Or.inl (by decide))) (fun k => by rw [u 236 k (Or.inl (by decide))]; exact h.who k)
noncomputable def cd_Model_state (I : IT) (i : Int) : Int := if bI (0 ≤ i ∧ i < I 100 19) = 0 then 1 else 0
noncomputable def f_Model_state  (i : Int) (S : IT) : IT × Int := (S, S 221 i)
noncomputable def r_Model_state  (I : IT) (i : Int) : IT × Int := callR (cd_Model_state I i) I (f_Model_state  i)
theorem sp_Model_state {i : Int} (hM : MW K P) (hb : MB I) : Sp m_Model_state false (rmv 2 43) (ex K P J (r_Model_state  I i).1 (.inl (some (vI (r_Model_state  I i).2)))) K P J I [vR (some 100), vI i] := by
  refine Sp.ofV (by decide) (Or.inr rfl) rfl ?_
  have rest : ∀ S : IT, (S = up2 I 100 93 0) → (cd_Model_state I i = 0) → ((bI (0 ≤ i ∧ i < I 100 19) ≠ 0)) → VW m_Model_state false (rmv 2 43) (ex K P J (f_Model_state  i S).1 (.inl (some (vI (f_Model_state  i S).2)))) K P J S 0 0 24 [(0, vR (some 100)), (1, vI i)] [] := by
    intro S eS hcd q
    have u : ∀ (o : Nat) (k : Int), (o ≠ 100 ∨ k ≠ 93) → S o k = I o k := fun o k h => by rw [eS]; exact if_neg (fun z => h.elim (fun y => y z.1) (fun y => y z.2))
    have q2 := bIn q
    have b0 := hb.trn
    clear u eS
    refine VW.aload_n (pc' := 25) d_Model_state_24 rfl rfl ?_
    refine VW.gP (ci := 11) (T := T11) (N := 94) (k := 21) (k' := 21) (pc' := 28) d_Model_state_25 rfl lk_Model_61 in11 rfl rfl rfl rfl (hM.k rfl) (hM.p (r := some 221) 21 rfl rfl) ?_
    refine VW.iload_n (pc' := 29) d_Model_state_28 rfl rfl ?_
    refine VW.ild (pc' := 30) d_Model_state_29 rfl (hM.k rfl) (by omega) (by omega) (by first | assumption | (simp [up2] <;> rfl) | rfl) ?_
    exact VW.iret d_Model_state_30 rfl rfl (Nat.zero_le _) (Nat.zero_le _) ex_rf
  have after : ∀ z : Int, z = cd_Model_state I i → VW m_Model_state false (rmv 2 43) (ex K P J (r_Model_state  I i).1 (.inl (some (vI (r_Model_state  I i).2)))) K P J (up2 I 100 93 z) 0 0 17 [(0, vR (some 100)), (1, vI i)] [vI (bI (0 < z))] := by
    intro z hz
    unfold r_Model_state
    rw [← hz]
    have q : ¬ 0 < z → (z = 0 ∧ ((bI (0 ≤ i ∧ i < I 100 19) ≠ 0))) := by
      intro h0
      have hz' := hz
      unfold cd_Model_state at hz'
      (repeat' split at hz') <;> first | (exfalso; omega) | (refine ⟨by omega, ?_⟩; first | trivial | omega)
    refine VW.if_eq (tgt := 24) (pc' := 20) d_Model_state_17 rfl rfl (fun c17 => ?_) (fun c17 => ?_)
    · try have e17 := bIe c17
      refine VW.nrm ?_
      rw [callR_0 e17]
      have qq := q e17
      have hz2 := hz.symm.trans qq.1
      rw [qq.1]
      exact rest _ rfl hz2 qq.2
    · try have e17 := bIn c17
      refine VW.iconst (pc' := 21) d_Model_state_20 rfl (by decide) ?_
      refine VW.goto (pc' := 30) d_Model_state_21 rfl ?_
      exact VW.iret d_Model_state_30 rfl rfl (Nat.zero_le _) (Nat.zero_le _) (ex_r (callR_1 e17))
  refine VW.aload_n (pc' := 1) d_Model_state_0 rfl rfl ?_
  refine VW.aload_n (pc' := 2) d_Model_state_1 rfl rfl ?_
  refine VW.iload_n (pc' := 3) d_Model_state_2 rfl rfl ?_
  refine VW.cV (ci := 11) (T := T11) (N := 94) (pc' := 6) d_Model_state_3 rfl mv_Model_isTransaction lk_Model_376 rfl (hM.k rfl) rfl rfl rfl (Nat.le_refl _) (Nat.le_refl _) (sp_Model_isTransaction hM hb.trn.1) rfl rfl ?_
  refine VW.if_eq (tgt := 13) (pc' := 9) d_Model_state_6 rfl rfl (fun c6 => ?_) (fun c6 => ?_)
  · try have e6 := bIe c6
    refine VW.iconst (pc' := 14) d_Model_state_13 rfl (by decide) ?_
    refine VW.cV (ci := 11) (T := T11) (N := 94) (pc' := 17) d_Model_state_14 rfl mv_Model_fails lk_Model_254 rfl (hM.k rfl) rfl rfl rfl (Nat.le_refl _) (Nat.le_refl _) (sp_Model_fails hM) rfl rfl ?_
    refine VW.pick [0, 1] ?_
    exact after _ (by unfold cd_Model_state; (repeat' split) <;> first | rfl | (exfalso; omega))
  · try have e6 := bIn c6
    refine VW.iconst (pc' := 10) d_Model_state_9 rfl (by decide) ?_
    refine VW.goto (pc' := 14) d_Model_state_10 rfl ?_
    refine VW.cV (ci := 11) (T := T11) (N := 94) (pc' := 17) d_Model_state_14 rfl mv_Model_fails lk_Model_254 rfl (hM.k rfl) rfl rfl rfl (Nat.le_refl _) (Nat.le_refl _) (sp_Model_fails hM) rfl rfl ?_
    refine VW.pick [0, 1] ?_
    exact after _ (by unfold cd_Model_state; (repeat' split) <;> first | rfl | (exfalso; omega))
noncomputable def cd_Model_outcome (I : IT) (i : Int) : Int := if bI (0 ≤ i ∧ i < I 100 19) = 0 then 1 else 0
noncomputable def f_Model_outcome  (i : Int) (S : IT) : IT × Int := (S, S 222 i)
noncomputable def r_Model_outcome  (I : IT) (i : Int) : IT × Int := callR (cd_Model_outcome I i) I (f_Model_outcome  i)
theorem sp_Model_outcome {i : Int} (hM : MW K P) (hb : MB I) : Sp m_Model_outcome false (rmv 2 43) (ex K P J (r_Model_outcome  I i).1 (.inl (some (vI (r_Model_outcome  I i).2)))) K P J I [vR (some 100), vI i] := by
  refine Sp.ofV (by decide) (Or.inr rfl) rfl ?_
  have rest : ∀ S : IT, (S = up2 I 100 93 0) → (cd_Model_outcome I i = 0) → ((bI (0 ≤ i ∧ i < I 100 19) ≠ 0)) → VW m_Model_outcome false (rmv 2 43) (ex K P J (f_Model_outcome  i S).1 (.inl (some (vI (f_Model_outcome  i S).2)))) K P J S 0 0 24 [(0, vR (some 100)), (1, vI i)] [] := by
    intro S eS hcd q
    have u : ∀ (o : Nat) (k : Int), (o ≠ 100 ∨ k ≠ 93) → S o k = I o k := fun o k h => by rw [eS]; exact if_neg (fun z => h.elim (fun y => y z.1) (fun y => y z.2))
    have q2 := bIn q
    have b0 := hb.trn
    clear u eS
    refine VW.aload_n (pc' := 25) d_Model_outcome_24 rfl rfl ?_
    refine VW.gP (ci := 11) (T := T11) (N := 94) (k := 22) (k' := 22) (pc' := 28) d_Model_outcome_25 rfl lk_Model_64 in11 rfl rfl rfl rfl (hM.k rfl) (hM.p (r := some 222) 22 rfl rfl) ?_
    refine VW.iload_n (pc' := 29) d_Model_outcome_28 rfl rfl ?_
    refine VW.ild (pc' := 30) d_Model_outcome_29 rfl (hM.k rfl) (by omega) (by omega) (by first | assumption | (simp [up2] <;> rfl) | rfl) ?_
    exact VW.iret d_Model_outcome_30 rfl rfl (Nat.zero_le _) (Nat.zero_le _) ex_rf
  have after : ∀ z : Int, z = cd_Model_outcome I i → VW m_Model_outcome false (rmv 2 43) (ex K P J (r_Model_outcome  I i).1 (.inl (some (vI (r_Model_outcome  I i).2)))) K P J (up2 I 100 93 z) 0 0 17 [(0, vR (some 100)), (1, vI i)] [vI (bI (0 < z))] := by
    intro z hz
    unfold r_Model_outcome
    rw [← hz]
    have q : ¬ 0 < z → (z = 0 ∧ ((bI (0 ≤ i ∧ i < I 100 19) ≠ 0))) := by
      intro h0
      have hz' := hz
      unfold cd_Model_outcome at hz'
      (repeat' split at hz') <;> first | (exfalso; omega) | (refine ⟨by omega, ?_⟩; first | trivial | omega)
    refine VW.if_eq (tgt := 24) (pc' := 20) d_Model_outcome_17 rfl rfl (fun c17 => ?_) (fun c17 => ?_)
    · try have e17 := bIe c17
      refine VW.nrm ?_
      rw [callR_0 e17]
      have qq := q e17
      have hz2 := hz.symm.trans qq.1
      rw [qq.1]
      exact rest _ rfl hz2 qq.2
    · try have e17 := bIn c17
      refine VW.iconst (pc' := 21) d_Model_outcome_20 rfl (by decide) ?_
      refine VW.goto (pc' := 30) d_Model_outcome_21 rfl ?_
      exact VW.iret d_Model_outcome_30 rfl rfl (Nat.zero_le _) (Nat.zero_le _) (ex_r (callR_1 e17))
  refine VW.aload_n (pc' := 1) d_Model_outcome_0 rfl rfl ?_
  refine VW.aload_n (pc' := 2) d_Model_outcome_1 rfl rfl ?_
  refine VW.iload_n (pc' := 3) d_Model_outcome_2 rfl rfl ?_
  refine VW.cV (ci := 11) (T := T11) (N := 94) (pc' := 6) d_Model_outcome_3 rfl mv_Model_isTransaction lk_Model_376 rfl (hM.k rfl) rfl rfl rfl (Nat.le_refl _) (Nat.le_refl _) (sp_Model_isTransaction hM hb.trn.1) rfl rfl ?_
  refine VW.if_eq (tgt := 13) (pc' := 9) d_Model_outcome_6 rfl rfl (fun c6 => ?_) (fun c6 => ?_)
  · try have e6 := bIe c6
    refine VW.iconst (pc' := 14) d_Model_outcome_13 rfl (by decide) ?_
    refine VW.cV (ci := 11) (T := T11) (N := 94) (pc' := 17) d_Model_outcome_14 rfl mv_Model_fails lk_Model_254 rfl (hM.k rfl) rfl rfl rfl (Nat.le_refl _) (Nat.le_refl _) (sp_Model_fails hM) rfl rfl ?_
    refine VW.pick [0, 1] ?_
    exact after _ (by unfold cd_Model_outcome; (repeat' split) <;> first | rfl | (exfalso; omega))
  · try have e6 := bIn c6
    refine VW.iconst (pc' := 10) d_Model_outcome_9 rfl (by decide) ?_
    refine VW.goto (pc' := 14) d_Model_outcome_10 rfl ?_
    refine VW.cV (ci := 11) (T := T11) (N := 94) (pc' := 17) d_Model_outcome_14 rfl mv_Model_fails lk_Model_254 rfl (hM.k rfl) rfl rfl rfl (Nat.le_refl _) (Nat.le_refl _) (sp_Model_fails hM) rfl rfl ?_
    refine VW.pick [0, 1] ?_
    exact after _ (by unfold cd_Model_outcome; (repeat' split) <;> first | rfl | (exfalso; omega))
noncomputable def cd_Model_waitsFor (I : IT) (i : Int) : Int := if bI (0 ≤ i ∧ i < I 100 19) = 0 then 1 else 0
noncomputable def f_Model_waitsFor  (i : Int) (S : IT) : IT × Int := (S, S 225 i)
noncomputable def r_Model_waitsFor  (I : IT) (i : Int) : IT × Int := callR (cd_Model_waitsFor I i) I (f_Model_waitsFor  i)
theorem sp_Model_waitsFor {i : Int} (hM : MW K P) (hb : MB I) : Sp m_Model_waitsFor false (rmv 2 43) (ex K P J (r_Model_waitsFor  I i).1 (.inl (some (vI (r_Model_waitsFor  I i).2)))) K P J I [vR (some 100), vI i] := by
  refine Sp.ofV (by decide) (Or.inr rfl) rfl ?_
  have rest : ∀ S : IT, (S = up2 I 100 93 0) → (cd_Model_waitsFor I i = 0) → ((bI (0 ≤ i ∧ i < I 100 19) ≠ 0)) → VW m_Model_waitsFor false (rmv 2 43) (ex K P J (f_Model_waitsFor  i S).1 (.inl (some (vI (f_Model_waitsFor  i S).2)))) K P J S 0 0 24 [(0, vR (some 100)), (1, vI i)] [] := by
    intro S eS hcd q
    have u : ∀ (o : Nat) (k : Int), (o ≠ 100 ∨ k ≠ 93) → S o k = I o k := fun o k h => by rw [eS]; exact if_neg (fun z => h.elim (fun y => y z.1) (fun y => y z.2))
    have q2 := bIn q
    have b0 := hb.trn
    clear u eS
    refine VW.aload_n (pc' := 25) d_Model_waitsFor_24 rfl rfl ?_
    refine VW.gP (ci := 11) (T := T11) (N := 94) (k := 25) (k' := 25) (pc' := 28) d_Model_waitsFor_25 rfl lk_Model_73 in11 rfl rfl rfl rfl (hM.k rfl) (hM.p (r := some 225) 25 rfl rfl) ?_
    refine VW.iload_n (pc' := 29) d_Model_waitsFor_28 rfl rfl ?_
    refine VW.ild (pc' := 30) d_Model_waitsFor_29 rfl (hM.k rfl) (by omega) (by omega) (by first | assumption | (simp [up2] <;> rfl) | rfl) ?_
    exact VW.iret d_Model_waitsFor_30 rfl rfl (Nat.zero_le _) (Nat.zero_le _) ex_rf
  have after : ∀ z : Int, z = cd_Model_waitsFor I i → VW m_Model_waitsFor false (rmv 2 43) (ex K P J (r_Model_waitsFor  I i).1 (.inl (some (vI (r_Model_waitsFor  I i).2)))) K P J (up2 I 100 93 z) 0 0 17 [(0, vR (some 100)), (1, vI i)] [vI (bI (0 < z))] := by
    intro z hz
    unfold r_Model_waitsFor
    rw [← hz]
    have q : ¬ 0 < z → (z = 0 ∧ ((bI (0 ≤ i ∧ i < I 100 19) ≠ 0))) := by
      intro h0
      have hz' := hz
      unfold cd_Model_waitsFor at hz'
      (repeat' split at hz') <;> first | (exfalso; omega) | (refine ⟨by omega, ?_⟩; first | trivial | omega)
    refine VW.if_eq (tgt := 24) (pc' := 20) d_Model_waitsFor_17 rfl rfl (fun c17 => ?_) (fun c17 => ?_)
    · try have e17 := bIe c17
      refine VW.nrm ?_
      rw [callR_0 e17]
      have qq := q e17
      have hz2 := hz.symm.trans qq.1
      rw [qq.1]
      exact rest _ rfl hz2 qq.2
    · try have e17 := bIn c17
      refine VW.iconst (pc' := 21) d_Model_waitsFor_20 rfl (by decide) ?_
      refine VW.goto (pc' := 30) d_Model_waitsFor_21 rfl ?_
      exact VW.iret d_Model_waitsFor_30 rfl rfl (Nat.zero_le _) (Nat.zero_le _) (ex_r (callR_1 e17))
  refine VW.aload_n (pc' := 1) d_Model_waitsFor_0 rfl rfl ?_
  refine VW.aload_n (pc' := 2) d_Model_waitsFor_1 rfl rfl ?_
  refine VW.iload_n (pc' := 3) d_Model_waitsFor_2 rfl rfl ?_
  refine VW.cV (ci := 11) (T := T11) (N := 94) (pc' := 6) d_Model_waitsFor_3 rfl mv_Model_isTransaction lk_Model_376 rfl (hM.k rfl) rfl rfl rfl (Nat.le_refl _) (Nat.le_refl _) (sp_Model_isTransaction hM hb.trn.1) rfl rfl ?_
  refine VW.if_eq (tgt := 13) (pc' := 9) d_Model_waitsFor_6 rfl rfl (fun c6 => ?_) (fun c6 => ?_)
  · try have e6 := bIe c6
    refine VW.iconst (pc' := 14) d_Model_waitsFor_13 rfl (by decide) ?_
    refine VW.cV (ci := 11) (T := T11) (N := 94) (pc' := 17) d_Model_waitsFor_14 rfl mv_Model_fails lk_Model_254 rfl (hM.k rfl) rfl rfl rfl (Nat.le_refl _) (Nat.le_refl _) (sp_Model_fails hM) rfl rfl ?_
    refine VW.pick [0, 1] ?_
    exact after _ (by unfold cd_Model_waitsFor; (repeat' split) <;> first | rfl | (exfalso; omega))
  · try have e6 := bIn c6
    refine VW.iconst (pc' := 10) d_Model_waitsFor_9 rfl (by decide) ?_
    refine VW.goto (pc' := 14) d_Model_waitsFor_10 rfl ?_
    refine VW.cV (ci := 11) (T := T11) (N := 94) (pc' := 17) d_Model_waitsFor_14 rfl mv_Model_fails lk_Model_254 rfl (hM.k rfl) rfl rfl rfl (Nat.le_refl _) (Nat.le_refl _) (sp_Model_fails hM) rfl rfl ?_
    refine VW.pick [0, 1] ?_
    exact after _ (by unfold cd_Model_waitsFor; (repeat' split) <;> first | rfl | (exfalso; omega))
noncomputable def cd_Model_hasRead (I : IT) (i t key : Int) : Int := if bI (0 ≤ i ∧ i < I 100 19) = 0 ∨ bI (0 ≤ t ∧ t < I 100 0) = 0 then 1 else 0
noncomputable def f_Model_hasRead  (i t key : Int) (S : IT) : IT × Int := (S, bI (mRead S i t key))
noncomputable def r_Model_hasRead  (I : IT) (i t key : Int) : IT × Int := callR (cd_Model_hasRead I i t key) I (f_Model_hasRead  i t key)
theorem sp_Model_hasRead {i t key : Int} (hM : MW K P) (hb : MB I) (hn : ∀ i, 0 ≤ I 233 i ∧ I 233 i ≤ 2048) : Sp m_Model_hasRead false (rmv 2 43) (ex K P J (r_Model_hasRead  I i t key).1 (.inl (some (vI (r_Model_hasRead  I i t key).2)))) K P J I [vR (some 100), vI i, vI t, vI key] := by
  refine Sp.ofV (by decide) (Or.inr rfl) rfl ?_
  have rest : ∀ a : Int, ∀ S : IT, (S = up2 I 100 93 0) → (cd_Model_hasRead I i t key = 0) → ((bI (0 ≤ i ∧ i < I 100 19) ≠ 0 ∧ bI (0 ≤ t ∧ t < I 100 0) ≠ 0)) → VW m_Model_hasRead false (rmv 2 43) (ex K P J (f_Model_hasRead  i t key S).1 (.inl (some (vI (f_Model_hasRead  i t key S).2)))) K P J S 0 0 40 [(0, vR (some 100)), (1, vI i), (2, vI t), (3, vI key), (4, vI a)] [] := by
    intro a S eS hcd q
    have u : ∀ (o : Nat) (k : Int), (o ≠ 100 ∨ k ≠ 93) → S o k = I o k := fun o k h => by rw [eS]; exact if_neg (fun z => h.elim (fun y => y z.1) (fun y => y z.2))
    have q2 := bIn q.1
    have q3 := bIn q.2
    have b0 := hb.trn
    have b1 := hb.tab
    have b2 := hn i
    rw [← u 233 i (Or.inl (by decide))] at b2
    have hbS := hb.u93 u
    clear u eS
    refine VW.aload_n (pc' := 41) d_Model_hasRead_40 rfl rfl ?_
    refine VW.iload_n (pc' := 42) d_Model_hasRead_41 rfl rfl ?_
    refine VW.iload_n (pc' := 43) d_Model_hasRead_42 rfl rfl ?_
    refine VW.iload_n (pc' := 44) d_Model_hasRead_43 rfl rfl ?_
    refine VW.cV (ci := 11) (T := T11) (N := 94) (pc' := 47) d_Model_hasRead_44 rfl mv_Model_hasReadKey lk_Model_291 rfl (hM.k rfl) rfl rfl rfl (Nat.le_refl _) (Nat.le_refl _) (sp_Model_hasReadKey hM hbS (by omega) (by omega) b2) rfl rfl ?_
    refine VW.if_eq (tgt := 54) (pc' := 50) d_Model_hasRead_47 rfl rfl (fun c47 => ?_) (fun c47 => ?_)
    · try have e47 := bIe c47
      refine VW.iconst (pc' := 55) d_Model_hasRead_54 rfl (by decide) ?_
      exact VW.iret d_Model_hasRead_55 rfl rfl (Nat.zero_le _) (Nat.zero_le _) (by first | (rw [show (f_Model_hasRead i t key S).2 = 1 from bI1 e47]; exact ex_rf) | (rw [show (f_Model_hasRead i t key S).2 = 0 from bI0 e47]; exact ex_rf))
    · try have e47 := bIn c47
      refine VW.iconst (pc' := 51) d_Model_hasRead_50 rfl (by decide) ?_
      refine VW.goto (pc' := 55) d_Model_hasRead_51 rfl ?_
      exact VW.iret d_Model_hasRead_55 rfl rfl (Nat.zero_le _) (Nat.zero_le _) (by first | (rw [show (f_Model_hasRead i t key S).2 = 1 from bI1 e47]; exact ex_rf) | (rw [show (f_Model_hasRead i t key S).2 = 0 from bI0 e47]; exact ex_rf))
  have after : ∀ a : Int, ∀ z : Int, z = cd_Model_hasRead I i t key → VW m_Model_hasRead false (rmv 2 43) (ex K P J (r_Model_hasRead  I i t key).1 (.inl (some (vI (r_Model_hasRead  I i t key).2)))) K P J (up2 I 100 93 z) 0 0 37 [(0, vR (some 100)), (1, vI i), (2, vI t), (3, vI key), (4, vI a)] [vI (bI (0 < z))] := by
    intro a z hz
    unfold r_Model_hasRead
    rw [← hz]
    have q : ¬ 0 < z → (z = 0 ∧ ((bI (0 ≤ i ∧ i < I 100 19) ≠ 0 ∧ bI (0 ≤ t ∧ t < I 100 0) ≠ 0))) := by
      intro h0
      have hz' := hz
      unfold cd_Model_hasRead at hz'
      (repeat' split at hz') <;> first | (exfalso; omega) | (refine ⟨by omega, ?_⟩; first | trivial | omega)
    refine VW.if_ne (tgt := 54) (pc' := 40) d_Model_hasRead_37 rfl rfl (fun c37 => ?_) (fun c37 => ?_)
    · try have e37 := bIn c37
      refine VW.iconst (pc' := 55) d_Model_hasRead_54 rfl (by decide) ?_
      exact VW.iret d_Model_hasRead_55 rfl rfl (Nat.zero_le _) (Nat.zero_le _) (ex_r (callR_1 e37))
    · try have e37 := bIe c37
      refine VW.nrm ?_
      rw [callR_0 e37]
      have qq := q e37
      have hz2 := hz.symm.trans qq.1
      rw [qq.1]
      exact rest _ _ rfl hz2 qq.2
  refine VW.aload_n (pc' := 1) d_Model_hasRead_0 rfl rfl ?_
  refine VW.iload_n (pc' := 2) d_Model_hasRead_1 rfl rfl ?_
  refine VW.cV (ci := 11) (T := T11) (N := 94) (pc' := 5) d_Model_hasRead_2 rfl mv_Model_isTransaction lk_Model_376 rfl (hM.k rfl) rfl rfl rfl (Nat.le_refl _) (Nat.le_refl _) (sp_Model_isTransaction hM hb.trn.1) rfl rfl ?_
  refine VW.if_eq (tgt := 20) (pc' := 8) d_Model_hasRead_5 rfl rfl (fun c5 => ?_) (fun c5 => ?_)
  · try have e5 := bIe c5
    refine VW.iconst (pc' := 21) d_Model_hasRead_20 rfl (by decide) ?_
    refine VW.istore (pc' := 23) d_Model_hasRead_21 rfl rfl ?_
    refine VW.aload_n (pc' := 24) d_Model_hasRead_23 rfl rfl ?_
    refine VW.iload (pc' := 26) d_Model_hasRead_24 rfl rfl ?_
    refine VW.if_eq (tgt := 33) (pc' := 29) d_Model_hasRead_26 rfl rfl (fun _ => ?_) (fun c26 => absurd c26 (by decide))
    refine VW.iconst (pc' := 34) d_Model_hasRead_33 rfl (by decide) ?_
    refine VW.cV (ci := 11) (T := T11) (N := 94) (pc' := 37) d_Model_hasRead_34 rfl mv_Model_fails lk_Model_254 rfl (hM.k rfl) rfl rfl rfl (Nat.le_refl _) (Nat.le_refl _) (sp_Model_fails hM) rfl rfl ?_
    refine VW.pick [0, 1, 2, 3, 4] ?_
    exact after _ _ (by unfold cd_Model_hasRead; (repeat' split) <;> first | rfl | (exfalso; omega))
  · try have e5 := bIn c5
    refine VW.aload_n (pc' := 9) d_Model_hasRead_8 rfl rfl ?_
    refine VW.iload_n (pc' := 10) d_Model_hasRead_9 rfl rfl ?_
    refine VW.cV (ci := 11) (T := T11) (N := 94) (pc' := 13) d_Model_hasRead_10 rfl mv_Model_isTable lk_Model_242 rfl (hM.k rfl) rfl rfl rfl (Nat.le_refl _) (Nat.le_refl _) (sp_Model_isTable hM hb.tab.1) rfl rfl ?_
    refine VW.if_eq (tgt := 20) (pc' := 16) d_Model_hasRead_13 rfl rfl (fun c13 => ?_) (fun c13 => ?_)
    · try have e13 := bIe c13
      refine VW.iconst (pc' := 21) d_Model_hasRead_20 rfl (by decide) ?_
      refine VW.istore (pc' := 23) d_Model_hasRead_21 rfl rfl ?_
      refine VW.aload_n (pc' := 24) d_Model_hasRead_23 rfl rfl ?_
      refine VW.iload (pc' := 26) d_Model_hasRead_24 rfl rfl ?_
      refine VW.if_eq (tgt := 33) (pc' := 29) d_Model_hasRead_26 rfl rfl (fun _ => ?_) (fun c26 => absurd c26 (by decide))
      refine VW.iconst (pc' := 34) d_Model_hasRead_33 rfl (by decide) ?_
      refine VW.cV (ci := 11) (T := T11) (N := 94) (pc' := 37) d_Model_hasRead_34 rfl mv_Model_fails lk_Model_254 rfl (hM.k rfl) rfl rfl rfl (Nat.le_refl _) (Nat.le_refl _) (sp_Model_fails hM) rfl rfl ?_
      refine VW.pick [0, 1, 2, 3, 4] ?_
      exact after _ _ (by unfold cd_Model_hasRead; (repeat' split) <;> first | rfl | (exfalso; omega))
    · try have e13 := bIn c13
      refine VW.iconst (pc' := 17) d_Model_hasRead_16 rfl (by decide) ?_
      refine VW.goto (pc' := 21) d_Model_hasRead_17 rfl ?_
      refine VW.istore (pc' := 23) d_Model_hasRead_21 rfl rfl ?_
      refine VW.aload_n (pc' := 24) d_Model_hasRead_23 rfl rfl ?_
      refine VW.iload (pc' := 26) d_Model_hasRead_24 rfl rfl ?_
      refine VW.if_eq (tgt := 33) (pc' := 29) d_Model_hasRead_26 rfl rfl (fun c26 => absurd c26 (by decide)) (fun _ => ?_)
      refine VW.iconst (pc' := 30) d_Model_hasRead_29 rfl (by decide) ?_
      refine VW.goto (pc' := 34) d_Model_hasRead_30 rfl ?_
      refine VW.cV (ci := 11) (T := T11) (N := 94) (pc' := 37) d_Model_hasRead_34 rfl mv_Model_fails lk_Model_254 rfl (hM.k rfl) rfl rfl rfl (Nat.le_refl _) (Nat.le_refl _) (sp_Model_fails hM) rfl rfl ?_
      refine VW.pick [0, 1, 2, 3, 4] ?_
      exact after _ _ (by unfold cd_Model_hasRead; (repeat' split) <;> first | rfl | (exfalso; omega))
noncomputable def cd_Model_own (I : IT) (i t key c : Int) : Int := if bI (0 ≤ i ∧ i < I 100 19) = 0 ∨ bI (0 ≤ t ∧ t < I 100 0 ∧ 0 ≤ c ∧ c < I 201 t) = 0 then 1 else 0
noncomputable def f_Model_own  (i t key c : Int) (S : IT) : IT × Int := (S, if S 221 i < 2 then mValue S (S 223 i) t key c else -2147483648)
noncomputable def r_Model_own  (I : IT) (i t key c : Int) : IT × Int := callR (cd_Model_own I i t key c) I (f_Model_own  i t key c)
theorem sp_Model_own {i t key c : Int} (hM : MW K P) (hb : MB I) : Sp m_Model_own false (rmv 3 73) (ex K P J (r_Model_own  I i t key c).1 (.inl (some (vI (r_Model_own  I i t key c).2)))) K P J I [vR (some 100), vI i, vI t, vI key, vI c] := by
  refine Sp.ofV (by decide) (Or.inr rfl) rfl ?_
  have rest : ∀ a : Int, ∀ S : IT, (S = up2 I 100 93 0) → (cd_Model_own I i t key c = 0) → ((bI (0 ≤ i ∧ i < I 100 19) ≠ 0 ∧ bI (0 ≤ t ∧ t < I 100 0 ∧ 0 ≤ c ∧ c < I 201 t) ≠ 0)) → VW m_Model_own false (rmv 3 73) (ex K P J (f_Model_own  i t key c S).1 (.inl (some (vI (f_Model_own  i t key c S).2)))) K P J S 0 0 44 [(0, vR (some 100)), (1, vI i), (2, vI t), (3, vI key), (4, vI c), (5, vI a)] [] := by
    intro a S eS hcd q
    have u : ∀ (o : Nat) (k : Int), (o ≠ 100 ∨ k ≠ 93) → S o k = I o k := fun o k h => by rw [eS]; exact if_neg (fun z => h.elim (fun y => y z.1) (fun y => y z.2))
    have q2 := bIn q.1
    have q3 := bIn q.2
    have b0 := hb.trn
    have b1 := hb.tab
    have b2 := hb.col t
    have hbS := hb.u93 u
    have p0 := hbS.pla i
    clear u eS
    refine VW.aload_n (pc' := 45) d_Model_own_44 rfl rfl ?_
    refine VW.gP (ci := 11) (T := T11) (N := 94) (k := 21) (k' := 21) (pc' := 48) d_Model_own_45 rfl lk_Model_61 in11 rfl rfl rfl rfl (hM.k rfl) (hM.p (r := some 221) 21 rfl rfl) ?_
    refine VW.iload_n (pc' := 49) d_Model_own_48 rfl rfl ?_
    refine VW.ild (pc' := 50) d_Model_own_49 rfl (hM.k rfl) (by omega) (by omega) (by first | assumption | (simp [up2] <;> rfl) | rfl) ?_
    refine VW.iconst (pc' := 51) d_Model_own_50 rfl (by decide) ?_
    refine VW.icmp_ge (tgt := 71) (pc' := 54) d_Model_own_51 rfl rfl (fun c51 => ?_) (fun c51 => ?_)
    · refine VW.ldc (pc' := 73) (z := -2147483648) d_Model_own_71 rfl lk_Model_246 (by decide) (by decide) ?_
      exact VW.iret d_Model_own_73 rfl rfl (Nat.zero_le _) (Nat.zero_le _) (by first | exact ex_r (by show (S, ite _ _ _) = _; rw [if_pos (by omega)]) | exact ex_r (by show (S, ite _ _ _) = _; rw [if_neg (by omega)]))
    · refine VW.aload_n (pc' := 55) d_Model_own_54 rfl rfl ?_
      refine VW.aload_n (pc' := 56) d_Model_own_55 rfl rfl ?_
      refine VW.gP (ci := 11) (T := T11) (N := 94) (k := 23) (k' := 23) (pc' := 59) d_Model_own_56 rfl lk_Model_67 in11 rfl rfl rfl rfl (hM.k rfl) (hM.p (r := some 223) 23 rfl rfl) ?_
      refine VW.iload_n (pc' := 60) d_Model_own_59 rfl rfl ?_
      refine VW.ild (pc' := 61) d_Model_own_60 rfl (hM.k rfl) (by omega) (by omega) (by first | assumption | (simp [up2] <;> rfl) | rfl) ?_
      refine VW.iload_n (pc' := 62) d_Model_own_61 rfl rfl ?_
      refine VW.iload_n (pc' := 63) d_Model_own_62 rfl rfl ?_
      refine VW.iload (pc' := 65) d_Model_own_63 rfl rfl ?_
      refine VW.cV (ci := 11) (T := T11) (N := 94) (pc' := 68) d_Model_own_65 rfl mv_Model_valueAt lk_Model_397 rfl (hM.k rfl) rfl rfl rfl (Nat.le_refl _) (Nat.le_refl _) (sp_Model_valueAt hM hbS (by omega) (by omega) (by omega)) rfl rfl ?_
      refine VW.goto (pc' := 73) d_Model_own_68 rfl ?_
      exact VW.iret d_Model_own_73 rfl rfl (Nat.zero_le _) (Nat.zero_le _) (by first | exact ex_r (by show (S, ite _ _ _) = _; rw [if_pos (by omega)]) | exact ex_r (by show (S, ite _ _ _) = _; rw [if_neg (by omega)]))
  have after : ∀ a : Int, ∀ z : Int, z = cd_Model_own I i t key c → VW m_Model_own false (rmv 3 73) (ex K P J (r_Model_own  I i t key c).1 (.inl (some (vI (r_Model_own  I i t key c).2)))) K P J (up2 I 100 93 z) 0 0 39 [(0, vR (some 100)), (1, vI i), (2, vI t), (3, vI key), (4, vI c), (5, vI a)] [vI (bI (0 < z))] := by
    intro a z hz
    unfold r_Model_own
    rw [← hz]
    have q : ¬ 0 < z → (z = 0 ∧ ((bI (0 ≤ i ∧ i < I 100 19) ≠ 0 ∧ bI (0 ≤ t ∧ t < I 100 0 ∧ 0 ≤ c ∧ c < I 201 t) ≠ 0))) := by
      intro h0
      have hz' := hz
      unfold cd_Model_own at hz'
      (repeat' split at hz') <;> first | (exfalso; omega) | (refine ⟨by omega, ?_⟩; first | trivial | omega)
    refine VW.if_eq (tgt := 44) (pc' := 42) d_Model_own_39 rfl rfl (fun c39 => ?_) (fun c39 => ?_)
    · try have e39 := bIe c39
      refine VW.nrm ?_
      rw [callR_0 e39]
      have qq := q e39
      have hz2 := hz.symm.trans qq.1
      rw [qq.1]
      exact rest _ _ rfl hz2 qq.2
    · try have e39 := bIn c39
      refine VW.iconst (pc' := 43) d_Model_own_42 rfl (by decide) ?_
      exact VW.iret d_Model_own_43 rfl rfl (Nat.zero_le _) (Nat.zero_le _) (ex_r (callR_1 e39))
  refine VW.aload_n (pc' := 1) d_Model_own_0 rfl rfl ?_
  refine VW.iload_n (pc' := 2) d_Model_own_1 rfl rfl ?_
  refine VW.cV (ci := 11) (T := T11) (N := 94) (pc' := 5) d_Model_own_2 rfl mv_Model_isTransaction lk_Model_376 rfl (hM.k rfl) rfl rfl rfl (Nat.le_refl _) (Nat.le_refl _) (sp_Model_isTransaction hM hb.trn.1) rfl rfl ?_
  refine VW.if_eq (tgt := 22) (pc' := 8) d_Model_own_5 rfl rfl (fun c5 => ?_) (fun c5 => ?_)
  · try have e5 := bIe c5
    refine VW.iconst (pc' := 23) d_Model_own_22 rfl (by decide) ?_
    refine VW.istore (pc' := 25) d_Model_own_23 rfl rfl ?_
    refine VW.aload_n (pc' := 26) d_Model_own_25 rfl rfl ?_
    refine VW.iload (pc' := 28) d_Model_own_26 rfl rfl ?_
    refine VW.if_eq (tgt := 35) (pc' := 31) d_Model_own_28 rfl rfl (fun _ => ?_) (fun c28 => absurd c28 (by decide))
    refine VW.iconst (pc' := 36) d_Model_own_35 rfl (by decide) ?_
    refine VW.cV (ci := 11) (T := T11) (N := 94) (pc' := 39) d_Model_own_36 rfl mv_Model_fails lk_Model_254 rfl (hM.k rfl) rfl rfl rfl (Nat.le_refl _) (Nat.le_refl _) (sp_Model_fails hM) rfl rfl ?_
    refine VW.pick [0, 1, 2, 3, 4, 5] ?_
    exact after _ _ (by unfold cd_Model_own; (repeat' split) <;> first | rfl | (exfalso; omega))
  · try have e5 := bIn c5
    refine VW.aload_n (pc' := 9) d_Model_own_8 rfl rfl ?_
    refine VW.iload_n (pc' := 10) d_Model_own_9 rfl rfl ?_
    refine VW.iload (pc' := 12) d_Model_own_10 rfl rfl ?_
    refine VW.cV (ci := 11) (T := T11) (N := 94) (pc' := 15) d_Model_own_12 rfl mv_Model_isColumn lk_Model_260 rfl (hM.k rfl) rfl rfl rfl (Nat.le_refl _) (Nat.le_refl _) (sp_Model_isColumn hM hb.tab.1 hb.tab.2 (fun t _ _ => (hb.col t).1)) rfl rfl ?_
    refine VW.if_eq (tgt := 22) (pc' := 18) d_Model_own_15 rfl rfl (fun c15 => ?_) (fun c15 => ?_)
    · try have e15 := bIe c15
      refine VW.iconst (pc' := 23) d_Model_own_22 rfl (by decide) ?_
      refine VW.istore (pc' := 25) d_Model_own_23 rfl rfl ?_
      refine VW.aload_n (pc' := 26) d_Model_own_25 rfl rfl ?_
      refine VW.iload (pc' := 28) d_Model_own_26 rfl rfl ?_
      refine VW.if_eq (tgt := 35) (pc' := 31) d_Model_own_28 rfl rfl (fun _ => ?_) (fun c28 => absurd c28 (by decide))
      refine VW.iconst (pc' := 36) d_Model_own_35 rfl (by decide) ?_
      refine VW.cV (ci := 11) (T := T11) (N := 94) (pc' := 39) d_Model_own_36 rfl mv_Model_fails lk_Model_254 rfl (hM.k rfl) rfl rfl rfl (Nat.le_refl _) (Nat.le_refl _) (sp_Model_fails hM) rfl rfl ?_
      refine VW.pick [0, 1, 2, 3, 4, 5] ?_
      exact after _ _ (by unfold cd_Model_own; (repeat' split) <;> first | rfl | (exfalso; omega))
    · try have e15 := bIn c15
      refine VW.iconst (pc' := 19) d_Model_own_18 rfl (by decide) ?_
      refine VW.goto (pc' := 23) d_Model_own_19 rfl ?_
      refine VW.istore (pc' := 25) d_Model_own_23 rfl rfl ?_
      refine VW.aload_n (pc' := 26) d_Model_own_25 rfl rfl ?_
      refine VW.iload (pc' := 28) d_Model_own_26 rfl rfl ?_
      refine VW.if_eq (tgt := 35) (pc' := 31) d_Model_own_28 rfl rfl (fun c28 => absurd c28 (by decide)) (fun _ => ?_)
      refine VW.iconst (pc' := 32) d_Model_own_31 rfl (by decide) ?_
      refine VW.goto (pc' := 36) d_Model_own_32 rfl ?_
      refine VW.cV (ci := 11) (T := T11) (N := 94) (pc' := 39) d_Model_own_36 rfl mv_Model_fails lk_Model_254 rfl (hM.k rfl) rfl rfl rfl (Nat.le_refl _) (Nat.le_refl _) (sp_Model_fails hM) rfl rfl ?_
      refine VW.pick [0, 1, 2, 3, 4, 5] ?_
      exact after _ _ (by unfold cd_Model_own; (repeat' split) <;> first | rfl | (exfalso; omega))
noncomputable def cd_Model_settled (I : IT) (t key c : Int) : Int := if bI (0 ≤ t ∧ t < I 100 0 ∧ 0 ≤ c ∧ c < I 201 t) = 0 then 1 else 0
noncomputable def f_Model_settled  (t key c : Int) (S : IT) : IT × Int := (S, mValue S 4 t key c)
noncomputable def r_Model_settled  (I : IT) (t key c : Int) : IT × Int := callR (cd_Model_settled I t key c) I (f_Model_settled  t key c)
theorem sp_Model_settled {t key c : Int} (hM : MW K P) (hb : MB I) : Sp m_Model_settled false (rmv 3 73) (ex K P J (r_Model_settled  I t key c).1 (.inl (some (vI (r_Model_settled  I t key c).2)))) K P J I [vR (some 100), vI t, vI key, vI c] := by
  refine Sp.ofV (by decide) (Or.inr rfl) rfl ?_
  have rest : ∀ S : IT, (S = up2 I 100 93 0) → (cd_Model_settled I t key c = 0) → ((bI (0 ≤ t ∧ t < I 100 0 ∧ 0 ≤ c ∧ c < I 201 t) ≠ 0)) → VW m_Model_settled false (rmv 3 73) (ex K P J (f_Model_settled  t key c S).1 (.inl (some (vI (f_Model_settled  t key c S).2)))) K P J S 0 0 25 [(0, vR (some 100)), (1, vI t), (2, vI key), (3, vI c)] [] := by
    intro S eS hcd q
    have u : ∀ (o : Nat) (k : Int), (o ≠ 100 ∨ k ≠ 93) → S o k = I o k := fun o k h => by rw [eS]; exact if_neg (fun z => h.elim (fun y => y z.1) (fun y => y z.2))
    have q3 := bIn q
    have b1 := hb.tab
    have b2 := hb.col t
    have hbS := hb.u93 u
    clear u eS
    refine VW.aload_n (pc' := 26) d_Model_settled_25 rfl rfl ?_
    refine VW.iconst (pc' := 27) d_Model_settled_26 rfl (by decide) ?_
    refine VW.iload_n (pc' := 28) d_Model_settled_27 rfl rfl ?_
    refine VW.iload_n (pc' := 29) d_Model_settled_28 rfl rfl ?_
    refine VW.iload_n (pc' := 30) d_Model_settled_29 rfl rfl ?_
    refine VW.cV (ci := 11) (T := T11) (N := 94) (pc' := 33) d_Model_settled_30 rfl mv_Model_valueAt lk_Model_397 rfl (hM.k rfl) rfl rfl rfl (Nat.le_refl _) (Nat.le_refl _) (sp_Model_valueAt hM hbS (by omega) (by omega) (by omega)) rfl rfl ?_
    exact VW.iret d_Model_settled_33 rfl rfl (Nat.zero_le _) (Nat.zero_le _) ex_rf
  have after : ∀ z : Int, z = cd_Model_settled I t key c → VW m_Model_settled false (rmv 3 73) (ex K P J (r_Model_settled  I t key c).1 (.inl (some (vI (r_Model_settled  I t key c).2)))) K P J (up2 I 100 93 z) 0 0 18 [(0, vR (some 100)), (1, vI t), (2, vI key), (3, vI c)] [vI (bI (0 < z))] := by
    intro z hz
    unfold r_Model_settled
    rw [← hz]
    have q : ¬ 0 < z → (z = 0 ∧ ((bI (0 ≤ t ∧ t < I 100 0 ∧ 0 ≤ c ∧ c < I 201 t) ≠ 0))) := by
      intro h0
      have hz' := hz
      unfold cd_Model_settled at hz'
      (repeat' split at hz') <;> first | (exfalso; omega) | (refine ⟨by omega, ?_⟩; first | trivial | omega)
    refine VW.if_eq (tgt := 25) (pc' := 21) d_Model_settled_18 rfl rfl (fun c18 => ?_) (fun c18 => ?_)
    · try have e18 := bIe c18
      refine VW.nrm ?_
      rw [callR_0 e18]
      have qq := q e18
      have hz2 := hz.symm.trans qq.1
      rw [qq.1]
      exact rest _ rfl hz2 qq.2
    · try have e18 := bIn c18
      refine VW.iconst (pc' := 22) d_Model_settled_21 rfl (by decide) ?_
      refine VW.goto (pc' := 33) d_Model_settled_22 rfl ?_
      exact VW.iret d_Model_settled_33 rfl rfl (Nat.zero_le _) (Nat.zero_le _) (ex_r (callR_1 e18))
  refine VW.aload_n (pc' := 1) d_Model_settled_0 rfl rfl ?_
  refine VW.aload_n (pc' := 2) d_Model_settled_1 rfl rfl ?_
  refine VW.iload_n (pc' := 3) d_Model_settled_2 rfl rfl ?_
  refine VW.iload_n (pc' := 4) d_Model_settled_3 rfl rfl ?_
  refine VW.cV (ci := 11) (T := T11) (N := 94) (pc' := 7) d_Model_settled_4 rfl mv_Model_isColumn lk_Model_260 rfl (hM.k rfl) rfl rfl rfl (Nat.le_refl _) (Nat.le_refl _) (sp_Model_isColumn hM hb.tab.1 hb.tab.2 (fun t _ _ => (hb.col t).1)) rfl rfl ?_
  refine VW.if_eq (tgt := 14) (pc' := 10) d_Model_settled_7 rfl rfl (fun c7 => ?_) (fun c7 => ?_)
  · try have e7 := bIe c7
    refine VW.iconst (pc' := 15) d_Model_settled_14 rfl (by decide) ?_
    refine VW.cV (ci := 11) (T := T11) (N := 94) (pc' := 18) d_Model_settled_15 rfl mv_Model_fails lk_Model_254 rfl (hM.k rfl) rfl rfl rfl (Nat.le_refl _) (Nat.le_refl _) (sp_Model_fails hM) rfl rfl ?_
    refine VW.pick [0, 1, 2, 3] ?_
    exact after _ (by unfold cd_Model_settled; (repeat' split) <;> first | rfl | (exfalso; omega))
  · try have e7 := bIn c7
    refine VW.iconst (pc' := 11) d_Model_settled_10 rfl (by decide) ?_
    refine VW.goto (pc' := 15) d_Model_settled_11 rfl ?_
    refine VW.cV (ci := 11) (T := T11) (N := 94) (pc' := 18) d_Model_settled_15 rfl mv_Model_fails lk_Model_254 rfl (hM.k rfl) rfl rfl rfl (Nat.le_refl _) (Nat.le_refl _) (sp_Model_fails hM) rfl rfl ?_
    refine VW.pick [0, 1, 2, 3] ?_
    exact after _ (by unfold cd_Model_settled; (repeat' split) <;> first | rfl | (exfalso; omega))
theorem sp_Model_committed {t key c : Int} (hM : MW K P) (hb : MB I) : Sp m_Model_committed false (rmv 4 96) (ex K P J (r_Model_settled I t key c).1 (.inl (some (vI (r_Model_settled I t key c).2)))) K P J I [vR (some 100), vI t, vI key, vI c] := by
  refine Sp.ofV (by decide) (Or.inr rfl) rfl ?_
  refine VW.aload_n (pc' := 1) d_Model_committed_0 rfl rfl ?_
  refine VW.iload_n (pc' := 2) d_Model_committed_1 rfl rfl ?_
  refine VW.iload_n (pc' := 3) d_Model_committed_2 rfl rfl ?_
  refine VW.iload_n (pc' := 4) d_Model_committed_3 rfl rfl ?_
  refine VW.cV (ci := 11) (T := T11) (N := 94) (pc' := 7) d_Model_committed_4 rfl mv_Model_settled lk_Model_400 rfl (hM.k rfl) rfl rfl rfl (Nat.le_refl _) (Nat.le_refl _) (sp_Model_settled hM hb) rfl rfl ?_
  exact VW.iret d_Model_committed_7 rfl rfl (Nat.zero_le _) (Nat.zero_le _) ex_rf
theorem sp_Model_committedByLog {t key c : Int} (hM : MW K P) (hb : MB I) : Sp m_Model_committedByLog false (rmv 4 96) (ex K P J (r_Model_settled I t key c).1 (.inl (some (vI (r_Model_settled I t key c).2)))) K P J I [vR (some 100), vI t, vI key, vI c] := by
  refine Sp.ofV (by decide) (Or.inr rfl) rfl ?_
  refine VW.aload_n (pc' := 1) d_Model_committedByLog_0 rfl rfl ?_
  refine VW.iload_n (pc' := 2) d_Model_committedByLog_1 rfl rfl ?_
  refine VW.iload_n (pc' := 3) d_Model_committedByLog_2 rfl rfl ?_
  refine VW.iload_n (pc' := 4) d_Model_committedByLog_3 rfl rfl ?_
  refine VW.cV (ci := 11) (T := T11) (N := 94) (pc' := 7) d_Model_committedByLog_4 rfl mv_Model_settled lk_Model_400 rfl (hM.k rfl) rfl rfl rfl (Nat.le_refl _) (Nat.le_refl _) (sp_Model_settled hM hb) rfl rfl ?_
  exact VW.iret d_Model_committedByLog_7 rfl rfl (Nat.zero_le _) (Nat.zero_le _) ex_rf
noncomputable def cd_Model_rowsOf (I : IT) (t : Int) : Int := if bI (0 ≤ t ∧ t < I 100 0) = 0 then 1 else 0
noncomputable def f_Model_rowsOf  (t : Int) (S : IT) : IT × Int := (S, S 214 (24 + t))
noncomputable def r_Model_rowsOf  (I : IT) (t : Int) : IT × Int := callR (cd_Model_rowsOf I t) I (f_Model_rowsOf  t)
theorem sp_Model_rowsOf {t : Int} (hM : MW K P) (hb : MB I) : Sp m_Model_rowsOf false (rmv 2 43) (ex K P J (r_Model_rowsOf  I t).1 (.inl (some (vI (r_Model_rowsOf  I t).2)))) K P J I [vR (some 100), vI t] := by
  refine Sp.ofV (by decide) (Or.inr rfl) rfl ?_
  have rest : ∀ S : IT, (S = up2 I 100 93 0) → (cd_Model_rowsOf I t = 0) → ((bI (0 ≤ t ∧ t < I 100 0) ≠ 0)) → VW m_Model_rowsOf false (rmv 2 43) (ex K P J (f_Model_rowsOf  t S).1 (.inl (some (vI (f_Model_rowsOf  t S).2)))) K P J S 0 0 24 [(0, vR (some 100)), (1, vI t)] [] := by
    intro S eS hcd q
    have u : ∀ (o : Nat) (k : Int), (o ≠ 100 ∨ k ≠ 93) → S o k = I o k := fun o k h => by rw [eS]; exact if_neg (fun z => h.elim (fun y => y z.1) (fun y => y z.2))
    have q3 := bIn q
    have b1 := hb.tab
    clear u eS
    refine VW.aload_n (pc' := 25) d_Model_rowsOf_24 rfl rfl ?_
    refine VW.gP (ci := 11) (T := T11) (N := 94) (k := 14) (k' := 14) (pc' := 28) d_Model_rowsOf_25 rfl lk_Model_46 in11 rfl rfl rfl rfl (hM.k rfl) (hM.p (r := some 214) 14 rfl rfl) ?_
    refine VW.bipush (pc' := 30) d_Model_rowsOf_28 rfl (by decide) ?_
    refine VW.iload_n (pc' := 31) d_Model_rowsOf_30 rfl rfl ?_
    refine VW.iadd (pc' := 32) d_Model_rowsOf_31 rfl (by omega) ?_
    refine VW.ild (pc' := 33) d_Model_rowsOf_32 rfl (hM.k rfl) (by omega) (by omega) (by first | assumption | (simp [up2] <;> rfl) | rfl) ?_
    exact VW.iret d_Model_rowsOf_33 rfl rfl (Nat.zero_le _) (Nat.zero_le _) ex_rf
  have after : ∀ z : Int, z = cd_Model_rowsOf I t → VW m_Model_rowsOf false (rmv 2 43) (ex K P J (r_Model_rowsOf  I t).1 (.inl (some (vI (r_Model_rowsOf  I t).2)))) K P J (up2 I 100 93 z) 0 0 17 [(0, vR (some 100)), (1, vI t)] [vI (bI (0 < z))] := by
    intro z hz
    unfold r_Model_rowsOf
    rw [← hz]
    have q : ¬ 0 < z → (z = 0 ∧ ((bI (0 ≤ t ∧ t < I 100 0) ≠ 0))) := by
      intro h0
      have hz' := hz
      unfold cd_Model_rowsOf at hz'
      (repeat' split at hz') <;> first | (exfalso; omega) | (refine ⟨by omega, ?_⟩; first | trivial | omega)
    refine VW.if_eq (tgt := 24) (pc' := 20) d_Model_rowsOf_17 rfl rfl (fun c17 => ?_) (fun c17 => ?_)
    · try have e17 := bIe c17
      refine VW.nrm ?_
      rw [callR_0 e17]
      have qq := q e17
      have hz2 := hz.symm.trans qq.1
      rw [qq.1]
      exact rest _ rfl hz2 qq.2
    · try have e17 := bIn c17
      refine VW.iconst (pc' := 21) d_Model_rowsOf_20 rfl (by decide) ?_
      refine VW.goto (pc' := 33) d_Model_rowsOf_21 rfl ?_
      exact VW.iret d_Model_rowsOf_33 rfl rfl (Nat.zero_le _) (Nat.zero_le _) (ex_r (callR_1 e17))
  refine VW.aload_n (pc' := 1) d_Model_rowsOf_0 rfl rfl ?_
  refine VW.aload_n (pc' := 2) d_Model_rowsOf_1 rfl rfl ?_
  refine VW.iload_n (pc' := 3) d_Model_rowsOf_2 rfl rfl ?_
  refine VW.cV (ci := 11) (T := T11) (N := 94) (pc' := 6) d_Model_rowsOf_3 rfl mv_Model_isTable lk_Model_242 rfl (hM.k rfl) rfl rfl rfl (Nat.le_refl _) (Nat.le_refl _) (sp_Model_isTable hM hb.tab.1) rfl rfl ?_
  refine VW.if_eq (tgt := 13) (pc' := 9) d_Model_rowsOf_6 rfl rfl (fun c6 => ?_) (fun c6 => ?_)
  · try have e6 := bIe c6
    refine VW.iconst (pc' := 14) d_Model_rowsOf_13 rfl (by decide) ?_
    refine VW.cV (ci := 11) (T := T11) (N := 94) (pc' := 17) d_Model_rowsOf_14 rfl mv_Model_fails lk_Model_254 rfl (hM.k rfl) rfl rfl rfl (Nat.le_refl _) (Nat.le_refl _) (sp_Model_fails hM) rfl rfl ?_
    refine VW.pick [0, 1] ?_
    exact after _ (by unfold cd_Model_rowsOf; (repeat' split) <;> first | rfl | (exfalso; omega))
  · try have e6 := bIn c6
    refine VW.iconst (pc' := 10) d_Model_rowsOf_9 rfl (by decide) ?_
    refine VW.goto (pc' := 14) d_Model_rowsOf_10 rfl ?_
    refine VW.cV (ci := 11) (T := T11) (N := 94) (pc' := 17) d_Model_rowsOf_14 rfl mv_Model_fails lk_Model_254 rfl (hM.k rfl) rfl rfl rfl (Nat.le_refl _) (Nat.le_refl _) (sp_Model_fails hM) rfl rfl ?_
    refine VW.pick [0, 1] ?_
    exact after _ (by unfold cd_Model_rowsOf; (repeat' split) <;> first | rfl | (exfalso; omega))
noncomputable def cd_Model_recordKind (I : IT) (i : Int) : Int := if bI (0 ≤ i ∧ i < I 100 44) = 0 then 1 else 0
noncomputable def f_Model_recordKind  (i : Int) (S : IT) : IT × Int := (S, S 246 i)
noncomputable def r_Model_recordKind  (I : IT) (i : Int) : IT × Int := callR (cd_Model_recordKind I i) I (f_Model_recordKind  i)
theorem sp_Model_recordKind {i : Int} (hM : MW K P) (h44 : 0 ≤ I 100 44 ∧ I 100 44 ≤ 16384) : Sp m_Model_recordKind false (rmv 2 43) (ex K P J (r_Model_recordKind  I i).1 (.inl (some (vI (r_Model_recordKind  I i).2)))) K P J I [vR (some 100), vI i] := by
  refine Sp.ofV (by decide) (Or.inr rfl) rfl ?_
  have rest : ∀ S : IT, (S = up2 I 100 93 0) → (cd_Model_recordKind I i = 0) → ((bI (0 ≤ i ∧ i < I 100 44) ≠ 0)) → VW m_Model_recordKind false (rmv 2 43) (ex K P J (f_Model_recordKind  i S).1 (.inl (some (vI (f_Model_recordKind  i S).2)))) K P J S 0 0 24 [(0, vR (some 100)), (1, vI i)] [] := by
    intro S eS hcd q
    have u : ∀ (o : Nat) (k : Int), (o ≠ 100 ∨ k ≠ 93) → S o k = I o k := fun o k h => by rw [eS]; exact if_neg (fun z => h.elim (fun y => y z.1) (fun y => y z.2))
    have q2 := bIn q
    clear u eS
    refine VW.aload_n (pc' := 25) d_Model_recordKind_24 rfl rfl ?_
    refine VW.gP (ci := 11) (T := T11) (N := 94) (k := 46) (k' := 46) (pc' := 28) d_Model_recordKind_25 rfl lk_Model_126 in11 rfl rfl rfl rfl (hM.k rfl) (hM.p (r := some 246) 46 rfl rfl) ?_
    refine VW.iload_n (pc' := 29) d_Model_recordKind_28 rfl rfl ?_
    refine VW.ild (pc' := 30) d_Model_recordKind_29 rfl (hM.k rfl) (by omega) (by omega) (by first | assumption | (simp [up2] <;> rfl) | rfl) ?_
    exact VW.iret d_Model_recordKind_30 rfl rfl (Nat.zero_le _) (Nat.zero_le _) ex_rf
  have after : ∀ z : Int, z = cd_Model_recordKind I i → VW m_Model_recordKind false (rmv 2 43) (ex K P J (r_Model_recordKind  I i).1 (.inl (some (vI (r_Model_recordKind  I i).2)))) K P J (up2 I 100 93 z) 0 0 17 [(0, vR (some 100)), (1, vI i)] [vI (bI (0 < z))] := by
    intro z hz
    unfold r_Model_recordKind
    rw [← hz]
    have q : ¬ 0 < z → (z = 0 ∧ ((bI (0 ≤ i ∧ i < I 100 44) ≠ 0))) := by
      intro h0
      have hz' := hz
      unfold cd_Model_recordKind at hz'
      (repeat' split at hz') <;> first | (exfalso; omega) | (refine ⟨by omega, ?_⟩; first | trivial | omega)
    refine VW.if_eq (tgt := 24) (pc' := 20) d_Model_recordKind_17 rfl rfl (fun c17 => ?_) (fun c17 => ?_)
    · try have e17 := bIe c17
      refine VW.nrm ?_
      rw [callR_0 e17]
      have qq := q e17
      have hz2 := hz.symm.trans qq.1
      rw [qq.1]
      exact rest _ rfl hz2 qq.2
    · try have e17 := bIn c17
      refine VW.iconst (pc' := 21) d_Model_recordKind_20 rfl (by decide) ?_
      refine VW.goto (pc' := 30) d_Model_recordKind_21 rfl ?_
      exact VW.iret d_Model_recordKind_30 rfl rfl (Nat.zero_le _) (Nat.zero_le _) (ex_r (callR_1 e17))
  refine VW.aload_n (pc' := 1) d_Model_recordKind_0 rfl rfl ?_
  refine VW.aload_n (pc' := 2) d_Model_recordKind_1 rfl rfl ?_
  refine VW.iload_n (pc' := 3) d_Model_recordKind_2 rfl rfl ?_
  refine VW.cV (ci := 11) (T := T11) (N := 94) (pc' := 6) d_Model_recordKind_3 rfl mv_Model_isRecord lk_Model_575 rfl (hM.k rfl) rfl rfl rfl (Nat.le_refl _) (Nat.le_refl _) (sp_Model_isRecord hM h44.1) rfl rfl ?_
  refine VW.if_eq (tgt := 13) (pc' := 9) d_Model_recordKind_6 rfl rfl (fun c6 => ?_) (fun c6 => ?_)
  · try have e6 := bIe c6
    refine VW.iconst (pc' := 14) d_Model_recordKind_13 rfl (by decide) ?_
    refine VW.cV (ci := 11) (T := T11) (N := 94) (pc' := 17) d_Model_recordKind_14 rfl mv_Model_fails lk_Model_254 rfl (hM.k rfl) rfl rfl rfl (Nat.le_refl _) (Nat.le_refl _) (sp_Model_fails hM) rfl rfl ?_
    refine VW.pick [0, 1] ?_
    exact after _ (by unfold cd_Model_recordKind; (repeat' split) <;> first | rfl | (exfalso; omega))
  · try have e6 := bIn c6
    refine VW.iconst (pc' := 10) d_Model_recordKind_9 rfl (by decide) ?_
    refine VW.goto (pc' := 14) d_Model_recordKind_10 rfl ?_
    refine VW.cV (ci := 11) (T := T11) (N := 94) (pc' := 17) d_Model_recordKind_14 rfl mv_Model_fails lk_Model_254 rfl (hM.k rfl) rfl rfl rfl (Nat.le_refl _) (Nat.le_refl _) (sp_Model_fails hM) rfl rfl ?_
    refine VW.pick [0, 1] ?_
    exact after _ (by unfold cd_Model_recordKind; (repeat' split) <;> first | rfl | (exfalso; omega))
noncomputable def cd_Model_recordOf (I : IT) (i : Int) : Int := if bI (0 ≤ i ∧ i < I 100 44) = 0 then 1 else 0
noncomputable def f_Model_recordOf  (i : Int) (S : IT) : IT × Int := (S, S 247 i)
noncomputable def r_Model_recordOf  (I : IT) (i : Int) : IT × Int := callR (cd_Model_recordOf I i) I (f_Model_recordOf  i)
theorem sp_Model_recordOf {i : Int} (hM : MW K P) (h44 : 0 ≤ I 100 44 ∧ I 100 44 ≤ 16384) : Sp m_Model_recordOf false (rmv 2 43) (ex K P J (r_Model_recordOf  I i).1 (.inl (some (vI (r_Model_recordOf  I i).2)))) K P J I [vR (some 100), vI i] := by
  refine Sp.ofV (by decide) (Or.inr rfl) rfl ?_
  have rest : ∀ S : IT, (S = up2 I 100 93 0) → (cd_Model_recordOf I i = 0) → ((bI (0 ≤ i ∧ i < I 100 44) ≠ 0)) → VW m_Model_recordOf false (rmv 2 43) (ex K P J (f_Model_recordOf  i S).1 (.inl (some (vI (f_Model_recordOf  i S).2)))) K P J S 0 0 24 [(0, vR (some 100)), (1, vI i)] [] := by
    intro S eS hcd q
    have u : ∀ (o : Nat) (k : Int), (o ≠ 100 ∨ k ≠ 93) → S o k = I o k := fun o k h => by rw [eS]; exact if_neg (fun z => h.elim (fun y => y z.1) (fun y => y z.2))
    have q2 := bIn q
    clear u eS
    refine VW.aload_n (pc' := 25) d_Model_recordOf_24 rfl rfl ?_
    refine VW.gP (ci := 11) (T := T11) (N := 94) (k := 47) (k' := 47) (pc' := 28) d_Model_recordOf_25 rfl lk_Model_129 in11 rfl rfl rfl rfl (hM.k rfl) (hM.p (r := some 247) 47 rfl rfl) ?_
    refine VW.iload_n (pc' := 29) d_Model_recordOf_28 rfl rfl ?_
    refine VW.ild (pc' := 30) d_Model_recordOf_29 rfl (hM.k rfl) (by omega) (by omega) (by first | assumption | (simp [up2] <;> rfl) | rfl) ?_
    exact VW.iret d_Model_recordOf_30 rfl rfl (Nat.zero_le _) (Nat.zero_le _) ex_rf
  have after : ∀ z : Int, z = cd_Model_recordOf I i → VW m_Model_recordOf false (rmv 2 43) (ex K P J (r_Model_recordOf  I i).1 (.inl (some (vI (r_Model_recordOf  I i).2)))) K P J (up2 I 100 93 z) 0 0 17 [(0, vR (some 100)), (1, vI i)] [vI (bI (0 < z))] := by
    intro z hz
    unfold r_Model_recordOf
    rw [← hz]
    have q : ¬ 0 < z → (z = 0 ∧ ((bI (0 ≤ i ∧ i < I 100 44) ≠ 0))) := by
      intro h0
      have hz' := hz
      unfold cd_Model_recordOf at hz'
      (repeat' split at hz') <;> first | (exfalso; omega) | (refine ⟨by omega, ?_⟩; first | trivial | omega)
    refine VW.if_eq (tgt := 24) (pc' := 20) d_Model_recordOf_17 rfl rfl (fun c17 => ?_) (fun c17 => ?_)
    · try have e17 := bIe c17
      refine VW.nrm ?_
      rw [callR_0 e17]
      have qq := q e17
      have hz2 := hz.symm.trans qq.1
      rw [qq.1]
      exact rest _ rfl hz2 qq.2
    · try have e17 := bIn c17
      refine VW.iconst (pc' := 21) d_Model_recordOf_20 rfl (by decide) ?_
      refine VW.goto (pc' := 30) d_Model_recordOf_21 rfl ?_
      exact VW.iret d_Model_recordOf_30 rfl rfl (Nat.zero_le _) (Nat.zero_le _) (ex_r (callR_1 e17))
  refine VW.aload_n (pc' := 1) d_Model_recordOf_0 rfl rfl ?_
  refine VW.aload_n (pc' := 2) d_Model_recordOf_1 rfl rfl ?_
  refine VW.iload_n (pc' := 3) d_Model_recordOf_2 rfl rfl ?_
  refine VW.cV (ci := 11) (T := T11) (N := 94) (pc' := 6) d_Model_recordOf_3 rfl mv_Model_isRecord lk_Model_575 rfl (hM.k rfl) rfl rfl rfl (Nat.le_refl _) (Nat.le_refl _) (sp_Model_isRecord hM h44.1) rfl rfl ?_
  refine VW.if_eq (tgt := 13) (pc' := 9) d_Model_recordOf_6 rfl rfl (fun c6 => ?_) (fun c6 => ?_)
  · try have e6 := bIe c6
    refine VW.iconst (pc' := 14) d_Model_recordOf_13 rfl (by decide) ?_
    refine VW.cV (ci := 11) (T := T11) (N := 94) (pc' := 17) d_Model_recordOf_14 rfl mv_Model_fails lk_Model_254 rfl (hM.k rfl) rfl rfl rfl (Nat.le_refl _) (Nat.le_refl _) (sp_Model_fails hM) rfl rfl ?_
    refine VW.pick [0, 1] ?_
    exact after _ (by unfold cd_Model_recordOf; (repeat' split) <;> first | rfl | (exfalso; omega))
  · try have e6 := bIn c6
    refine VW.iconst (pc' := 10) d_Model_recordOf_9 rfl (by decide) ?_
    refine VW.goto (pc' := 14) d_Model_recordOf_10 rfl ?_
    refine VW.cV (ci := 11) (T := T11) (N := 94) (pc' := 17) d_Model_recordOf_14 rfl mv_Model_fails lk_Model_254 rfl (hM.k rfl) rfl rfl rfl (Nat.le_refl _) (Nat.le_refl _) (sp_Model_fails hM) rfl rfl ?_
    refine VW.pick [0, 1] ?_
    exact after _ (by unfold cd_Model_recordOf; (repeat' split) <;> first | rfl | (exfalso; omega))
noncomputable def cd_Model_recordAt (I : IT) (i w : Int) : Int := if bI (0 ≤ i ∧ i < I 100 44) = 0 then 1 else 0
noncomputable def f_Model_recordAt  (i w : Int) (S : IT) : IT × Int := (S, if w = 0 then S 248 i else S 249 i)
noncomputable def r_Model_recordAt  (I : IT) (i w : Int) : IT × Int := callR (cd_Model_recordAt I i w) I (f_Model_recordAt  i w)
theorem sp_Model_recordAt {i w : Int} (hM : MW K P) (h44 : 0 ≤ I 100 44 ∧ I 100 44 ≤ 16384) : Sp m_Model_recordAt false (rmv 2 43) (ex K P J (r_Model_recordAt  I i w).1 (.inl (some (vI (r_Model_recordAt  I i w).2)))) K P J I [vR (some 100), vI i, vI w] := by
  refine Sp.ofV (by decide) (Or.inr rfl) rfl ?_
  have rest : ∀ S : IT, (S = up2 I 100 93 0) → (cd_Model_recordAt I i w = 0) → ((bI (0 ≤ i ∧ i < I 100 44) ≠ 0)) → VW m_Model_recordAt false (rmv 2 43) (ex K P J (f_Model_recordAt  i w S).1 (.inl (some (vI (f_Model_recordAt  i w S).2)))) K P J S 0 0 24 [(0, vR (some 100)), (1, vI i), (2, vI w)] [] := by
    intro S eS hcd q
    have u : ∀ (o : Nat) (k : Int), (o ≠ 100 ∨ k ≠ 93) → S o k = I o k := fun o k h => by rw [eS]; exact if_neg (fun z => h.elim (fun y => y z.1) (fun y => y z.2))
    have q2 := bIn q
    clear u eS
    refine VW.iload_n (pc' := 25) d_Model_recordAt_24 rfl rfl ?_
    refine VW.if_eq (tgt := 37) (pc' := 28) d_Model_recordAt_25 rfl rfl (fun c25 => ?_) (fun c25 => ?_)
    · try have e25 := bIe c25
      refine VW.aload_n (pc' := 38) d_Model_recordAt_37 rfl rfl ?_
      refine VW.gP (ci := 11) (T := T11) (N := 94) (k := 48) (k' := 48) (pc' := 41) d_Model_recordAt_38 rfl lk_Model_132 in11 rfl rfl rfl rfl (hM.k rfl) (hM.p (r := some 248) 48 rfl rfl) ?_
      refine VW.iload_n (pc' := 42) d_Model_recordAt_41 rfl rfl ?_
      refine VW.ild (pc' := 43) d_Model_recordAt_42 rfl (hM.k rfl) (by omega) (by omega) (by first | assumption | (simp [up2] <;> rfl) | rfl) ?_
      exact VW.iret d_Model_recordAt_43 rfl rfl (Nat.zero_le _) (Nat.zero_le _) (by first | exact ex_r (by show (S, ite _ _ _) = _; rw [if_pos c25]) | exact ex_r (by show (S, ite _ _ _) = _; rw [if_neg c25]))
    · try have e25 := bIn c25
      refine VW.aload_n (pc' := 29) d_Model_recordAt_28 rfl rfl ?_
      refine VW.gP (ci := 11) (T := T11) (N := 94) (k := 49) (k' := 49) (pc' := 32) d_Model_recordAt_29 rfl lk_Model_135 in11 rfl rfl rfl rfl (hM.k rfl) (hM.p (r := some 249) 49 rfl rfl) ?_
      refine VW.iload_n (pc' := 33) d_Model_recordAt_32 rfl rfl ?_
      refine VW.ild (pc' := 34) d_Model_recordAt_33 rfl (hM.k rfl) (by omega) (by omega) (by first | assumption | (simp [up2] <;> rfl) | rfl) ?_
      refine VW.goto (pc' := 43) d_Model_recordAt_34 rfl ?_
      exact VW.iret d_Model_recordAt_43 rfl rfl (Nat.zero_le _) (Nat.zero_le _) (by first | exact ex_r (by show (S, ite _ _ _) = _; rw [if_pos c25]) | exact ex_r (by show (S, ite _ _ _) = _; rw [if_neg c25]))
  have after : ∀ z : Int, z = cd_Model_recordAt I i w → VW m_Model_recordAt false (rmv 2 43) (ex K P J (r_Model_recordAt  I i w).1 (.inl (some (vI (r_Model_recordAt  I i w).2)))) K P J (up2 I 100 93 z) 0 0 17 [(0, vR (some 100)), (1, vI i), (2, vI w)] [vI (bI (0 < z))] := by
    intro z hz
    unfold r_Model_recordAt
    rw [← hz]
    have q : ¬ 0 < z → (z = 0 ∧ ((bI (0 ≤ i ∧ i < I 100 44) ≠ 0))) := by
      intro h0
      have hz' := hz
      unfold cd_Model_recordAt at hz'
      (repeat' split at hz') <;> first | (exfalso; omega) | (refine ⟨by omega, ?_⟩; first | trivial | omega)
    refine VW.if_eq (tgt := 24) (pc' := 20) d_Model_recordAt_17 rfl rfl (fun c17 => ?_) (fun c17 => ?_)
    · try have e17 := bIe c17
      refine VW.nrm ?_
      rw [callR_0 e17]
      have qq := q e17
      have hz2 := hz.symm.trans qq.1
      rw [qq.1]
      exact rest _ rfl hz2 qq.2
    · try have e17 := bIn c17
      refine VW.iconst (pc' := 21) d_Model_recordAt_20 rfl (by decide) ?_
      refine VW.goto (pc' := 43) d_Model_recordAt_21 rfl ?_
      exact VW.iret d_Model_recordAt_43 rfl rfl (Nat.zero_le _) (Nat.zero_le _) (ex_r (callR_1 e17))
  refine VW.aload_n (pc' := 1) d_Model_recordAt_0 rfl rfl ?_
  refine VW.aload_n (pc' := 2) d_Model_recordAt_1 rfl rfl ?_
  refine VW.iload_n (pc' := 3) d_Model_recordAt_2 rfl rfl ?_
  refine VW.cV (ci := 11) (T := T11) (N := 94) (pc' := 6) d_Model_recordAt_3 rfl mv_Model_isRecord lk_Model_575 rfl (hM.k rfl) rfl rfl rfl (Nat.le_refl _) (Nat.le_refl _) (sp_Model_isRecord hM h44.1) rfl rfl ?_
  refine VW.if_eq (tgt := 13) (pc' := 9) d_Model_recordAt_6 rfl rfl (fun c6 => ?_) (fun c6 => ?_)
  · try have e6 := bIe c6
    refine VW.iconst (pc' := 14) d_Model_recordAt_13 rfl (by decide) ?_
    refine VW.cV (ci := 11) (T := T11) (N := 94) (pc' := 17) d_Model_recordAt_14 rfl mv_Model_fails lk_Model_254 rfl (hM.k rfl) rfl rfl rfl (Nat.le_refl _) (Nat.le_refl _) (sp_Model_fails hM) rfl rfl ?_
    refine VW.pick [0, 1, 2] ?_
    exact after _ (by unfold cd_Model_recordAt; (repeat' split) <;> first | rfl | (exfalso; omega))
  · try have e6 := bIn c6
    refine VW.iconst (pc' := 10) d_Model_recordAt_9 rfl (by decide) ?_
    refine VW.goto (pc' := 14) d_Model_recordAt_10 rfl ?_
    refine VW.cV (ci := 11) (T := T11) (N := 94) (pc' := 17) d_Model_recordAt_14 rfl mv_Model_fails lk_Model_254 rfl (hM.k rfl) rfl rfl rfl (Nat.le_refl _) (Nat.le_refl _) (sp_Model_fails hM) rfl rfl ?_
    refine VW.pick [0, 1, 2] ?_
    exact after _ (by unfold cd_Model_recordAt; (repeat' split) <;> first | rfl | (exfalso; omega))
theorem sp_Model_records (hM : MW K P) : Sp m_Model_records false (rmv 1 21) (ex K P J (up2 I 100 93 0) (.inl (some (vI (I 100 44))))) K P J I [vR (some 100)] := by
  refine Sp.ofV (by decide) (Or.inr rfl) rfl ?_
  refine VW.aload_n (pc' := 1) d_Model_records_0 rfl rfl ?_
  refine VW.aload_n (pc' := 2) d_Model_records_1 rfl rfl ?_
  refine VW.gI (ci := 11) (T := T11) (N := 94) (k := 44) (k' := 44) (pc' := 5) d_Model_records_2 rfl lk_Model_294 in11 rfl rfl rfl rfl (hM.k rfl) (by first | assumption | (simp [up2] <;> rfl) | rfl) ?_
  refine VW.cV (ci := 11) (T := T11) (N := 94) (pc' := 8) d_Model_records_5 rfl mv_Model_tells lk_Model_554 rfl (hM.k rfl) rfl rfl rfl (Nat.le_refl _) (Nat.le_refl _) (sp_Model_tells hM) rfl rfl ?_
  exact VW.iret d_Model_records_8 rfl rfl (Nat.zero_le _) (Nat.zero_le _) ex_rf
theorem sp_Model_flushed (hM : MW K P) : Sp m_Model_flushed false (rmv 1 21) (ex K P J (up2 I 100 93 0) (.inl (some (vI (I 100 45))))) K P J I [vR (some 100)] := by
  refine Sp.ofV (by decide) (Or.inr rfl) rfl ?_
  refine VW.aload_n (pc' := 1) d_Model_flushed_0 rfl rfl ?_
  refine VW.aload_n (pc' := 2) d_Model_flushed_1 rfl rfl ?_
  refine VW.gI (ci := 11) (T := T11) (N := 94) (k := 45) (k' := 45) (pc' := 5) d_Model_flushed_2 rfl lk_Model_394 in11 rfl rfl rfl rfl (hM.k rfl) (by first | assumption | (simp [up2] <;> rfl) | rfl) ?_
  refine VW.cV (ci := 11) (T := T11) (N := 94) (pc' := 8) d_Model_flushed_5 rfl mv_Model_tells lk_Model_554 rfl (hM.k rfl) rfl rfl rfl (Nat.le_refl _) (Nat.le_refl _) (sp_Model_tells hM) rfl rfl ?_
  exact VW.iret d_Model_flushed_8 rfl rfl (Nat.zero_le _) (Nat.zero_le _) ex_rf
theorem sp_Model_planned (hM : MW K P) : Sp m_Model_planned false (rmv 1 21) (ex K P J (up2 I 100 93 0) (.inl (some (vI (I 100 67))))) K P J I [vR (some 100)] := by
  refine Sp.ofV (by decide) (Or.inr rfl) rfl ?_
  refine VW.aload_n (pc' := 1) d_Model_planned_0 rfl rfl ?_
  refine VW.aload_n (pc' := 2) d_Model_planned_1 rfl rfl ?_
  refine VW.gI (ci := 11) (T := T11) (N := 94) (k := 67) (k' := 67) (pc' := 5) d_Model_planned_2 rfl lk_Model_551 in11 rfl rfl rfl rfl (hM.k rfl) (by first | assumption | (simp [up2] <;> rfl) | rfl) ?_
  refine VW.cV (ci := 11) (T := T11) (N := 94) (pc' := 8) d_Model_planned_5 rfl mv_Model_tells lk_Model_554 rfl (hM.k rfl) rfl rfl rfl (Nat.le_refl _) (Nat.le_refl _) (sp_Model_tells hM) rfl rfl ?_
  exact VW.iret d_Model_planned_8 rfl rfl (Nat.zero_le _) (Nat.zero_le _) ex_rf
theorem sp_Model_checkpoint (hM : MW K P) (h44 : 0 ≤ I 100 44 ∧ I 100 44 < 16384) : Sp m_Model_checkpoint false (rmv 1 24) (ex K P J (up2 (up2 (mnotes I 4 (-1) (-2147483648) (-2147483648)) 100 45 (I 100 44 + 1)) 100 93 0) (.inl (some (vI (I 100 44 + 1))))) K P J I [vR (some 100)] := by
  refine Sp.ofV (by decide) (Or.inr rfl) rfl ?_
  refine VW.aload_n (pc' := 1) d_Model_checkpoint_0 rfl rfl ?_
  refine VW.iconst (pc' := 2) d_Model_checkpoint_1 rfl (by decide) ?_
  refine VW.iconst (pc' := 3) d_Model_checkpoint_2 rfl (by decide) ?_
  refine VW.ldc (pc' := 5) (z := -2147483648) d_Model_checkpoint_3 rfl lk_Model_246 (by decide) (by decide) ?_
  refine VW.ldc (pc' := 7) (z := -2147483648) d_Model_checkpoint_5 rfl lk_Model_246 (by decide) (by decide) ?_
  refine VW.cV (ci := 11) (T := T11) (N := 94) (pc' := 10) d_Model_checkpoint_7 rfl mv_Model_notes lk_Model_297 rfl (hM.k rfl) rfl rfl rfl (Nat.le_refl _) (Nat.le_refl _) (sp_Model_notes hM h44.1 h44.2) rfl rfl ?_
  refine VW.aload_n (pc' := 11) d_Model_checkpoint_10 rfl rfl ?_
  refine VW.aload_n (pc' := 12) d_Model_checkpoint_11 rfl rfl ?_
  refine VW.gI (ci := 11) (T := T11) (N := 94) (k := 44) (k' := 44) (pc' := 15) d_Model_checkpoint_12 rfl lk_Model_294 in11 rfl rfl rfl rfl (hM.k rfl) (by first | exact mnotes_44 _ _ _ _ _ | exact (up2_k _ _ _ _ (by decide)).trans (mnotes_44 _ _ _ _ _) | rfl) ?_
  refine VW.pI (ci := 11) (T := T11) (N := 94) (k := 45) (k' := 45) (ty := ty11) (pc' := 18) d_Model_checkpoint_15 rfl lk_Model_394 in11 tk11 nm11 rfl rfl rfl rfl rfl rfl (hM.k rfl) ?_
  refine VW.aload_n (pc' := 19) d_Model_checkpoint_18 rfl rfl ?_
  refine VW.aload_n (pc' := 20) d_Model_checkpoint_19 rfl rfl ?_
  refine VW.gI (ci := 11) (T := T11) (N := 94) (k := 44) (k' := 44) (pc' := 23) d_Model_checkpoint_20 rfl lk_Model_294 in11 rfl rfl rfl rfl (hM.k rfl) (by first | exact mnotes_44 _ _ _ _ _ | exact (up2_k _ _ _ _ (by decide)).trans (mnotes_44 _ _ _ _ _) | rfl) ?_
  refine VW.cV (ci := 11) (T := T11) (N := 94) (pc' := 26) d_Model_checkpoint_23 rfl mv_Model_tells lk_Model_554 rfl (hM.k rfl) rfl rfl rfl (Nat.le_refl _) (Nat.le_refl _) (sp_Model_tells hM) rfl rfl ?_
  exact VW.iret d_Model_checkpoint_26 rfl rfl (Nat.zero_le _) (Nat.zero_le _) ex_rf
end
