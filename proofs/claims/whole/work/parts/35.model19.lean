section
variable {K : KT} {P : PT} {J I : IT}
/-- the draft goes to a transaction: its first n cells -/
def mDr (S : IT) (i n : Int) : IT := fun o q => if o = 232 ∧ 4 * i ≤ q ∧ q < 4 * i + n then (if q - 4 * i < S 100 37 then S 238 (q - 4 * i) else -2147483648) else S o q
theorem mDr_0 {S : IT} {i : Int} : mDr S i 0 = S := by
  funext o q
  exact if_neg (by omega)
theorem mDr_fr {S : IT} {i n k : Int} {o : Nat} (h : o ≠ 232) : mDr S i n o k = S o k := if_neg (fun z => h z.1)
theorem mDr_step {S : IT} {i n v : Int} (h : 0 ≤ n) (hv : (n < S 100 37 ∧ v = S 238 n) ∨ (S 100 37 ≤ n ∧ v = -2147483648)) : up2 (mDr S i n) 232 (4 * i + n) v = mDr S i (n + 1) := by
  funext o q
  unfold up2 mDr
  by_cases h1 : o = 232 ∧ q = 4 * i + n
  · rw [if_pos h1, if_pos (by omega)]
    rcases hv with ⟨a, b⟩ | ⟨a, b⟩
    · rw [if_pos (by omega), b]; congr 1; omega
    · rw [if_neg (by omega), b]
  · rw [if_neg h1]
    by_cases h2 : o = 232 ∧ 4 * i ≤ q ∧ q < 4 * i + n
    · rw [if_pos h2, if_pos (⟨h2.1, h2.2.1, by omega⟩ : o = 232 ∧ 4 * i ≤ q ∧ q < 4 * i + (n + 1))]
    · rw [if_neg h2, if_neg (by omega)]
def mInX (S : IT) (i : Int) : IT := up2 (mDr S i 4) 100 37 0
noncomputable def cd_Model_insert (I : IT) (i t : Int) : Int := if bI (0 ≤ i ∧ i < I 100 19) = 0 ∨ bI (0 ≤ t ∧ t < I 100 0) = 0 then 1 else if I 221 i ≠ 0 ∨ I 100 37 ≠ I 201 t then 2 else 0
noncomputable def f_Model_insert (n : Nat) (i t : Int) (S : IT) : IT × Int := (mSettle n (mAct1 (mInX S i) i 0 t), mTriesV (mAct0 (mInX S i) i 0 t) i)
noncomputable def r_Model_insert (n : Nat) (I : IT) (i t : Int) : IT × Int := callR (cd_Model_insert I i t) I (f_Model_insert n i t)
theorem sp_Model_insert {i t : Int} {n : Nat} (hM : MW K P) (hb : MB I) (h37 : 0 ≤ I 100 37 ∧ I 100 37 ≤ 4) (hp : cd_Model_insert I i t = 0 → TryP (mAct0 (mInX (up2 I 100 93 0) i) i 0 t) i ∧ SetOK n (mAct1 (mInX (up2 I 100 93 0) i) i 0 t)) : Sp m_Model_insert false (rmv 8 198) (ex K P J (r_Model_insert n I i t).1 (.inl (some (vI (r_Model_insert n I i t).2)))) K P J I [vR (some 100), vI i, vI t] := by
  refine Sp.ofV (by decide) (Or.inr rfl) rfl ?_
  have rest : ∀ a : Int, ∀ S : IT, (S = up2 I 100 93 0) → (cd_Model_insert I i t = 0) → ((bI (0 ≤ i ∧ i < I 100 19) ≠ 0)) → VW m_Model_insert false (rmv 8 198) (ex K P J (f_Model_insert n i t S).1 (.inl (some (vI (f_Model_insert n i t S).2)))) K P J S 0 0 66 [(0, vR (some 100)), (1, vI i), (2, vI t), (3, vI a)] [] := by
    intro a S eS hcd q
    have u : ∀ (o : Nat) (k : Int), (o ≠ 100 ∨ k ≠ 93) → S o k = I o k := fun o k h => by rw [eS]; exact if_neg (fun z => h.elim (fun y => y z.1) (fun y => y z.2))
    have q2 := bIn q
    have b0 := hb.trn
    have hp1 := hp hcd
    rw [← eS] at hp1
    have u0 : 0 ≤ S 100 37 ∧ S 100 37 ≤ 4 := by rw [u 100 37 (by decide)]; omega
    clear u q hp hcd eS h37
    have loop : ∀ (m : Nat) (c : Int), c + m = 4 → 0 ≤ c → VW m_Model_insert false (rmv 8 198) (ex K P J (f_Model_insert n i t S).1 (.inl (some (vI (f_Model_insert n i t S).2)))) K P J (mDr S i c) 0 0 69 [(0, vR (some 100)), (1, vI i), (2, vI t), (3, vI a), (4, vI c)] [] := by
      intro m
      induction m with
      | zero =>
        intro c hc h0
        have ec : c = 4 := by omega
        subst ec
        refine VW.iload (pc' := 71) d_Model_insert_69 rfl rfl ?_
        refine VW.iconst (pc' := 72) d_Model_insert_71 rfl (by decide) ?_
        refine VW.icmp_ge (tgt := 113) (pc' := 75) d_Model_insert_72 rfl rfl (fun c72 => ?_) (fun c72 => ?_)
        · refine VW.aload_n (pc' := 114) d_Model_insert_113 rfl rfl ?_
          refine VW.iconst (pc' := 115) d_Model_insert_114 rfl (by decide) ?_
          refine VW.pI (ci := 11) (T := T11) (N := 94) (k := 37) (k' := 37) (ty := ty11) (pc' := 118) d_Model_insert_115 rfl lk_Model_288 in11 tk11 nm11 rfl rfl rfl rfl rfl rfl (hM.k rfl) ?_
          refine VW.aload_n (pc' := 119) d_Model_insert_118 rfl rfl ?_
          refine VW.iload_n (pc' := 120) d_Model_insert_119 rfl rfl ?_
          refine VW.iconst (pc' := 121) d_Model_insert_120 rfl (by decide) ?_
          refine VW.iload_n (pc' := 122) d_Model_insert_121 rfl rfl ?_
          refine VW.cV (ci := 11) (T := T11) (N := 94) (pc' := 125) d_Model_insert_122 rfl mv_Model_acts lk_Model_379 rfl (hM.k rfl) rfl rfl rfl (Nat.le_refl _) (Nat.le_refl _) (sp_Model_acts (n := n) hM hp1.1 hp1.2) rfl rfl ?_
          exact VW.iret d_Model_insert_125 rfl rfl (Nat.zero_le _) (Nat.zero_le _) ex_rf
        · exfalso; omega
      | succ m ih =>
        intro c hc h0
        refine VW.iload (pc' := 71) d_Model_insert_69 rfl rfl ?_
        refine VW.iconst (pc' := 72) d_Model_insert_71 rfl (by decide) ?_
        refine VW.icmp_ge (tgt := 113) (pc' := 75) d_Model_insert_72 rfl rfl (fun c72 => ?_) (fun c72 => ?_)
        · exfalso; omega
        · refine VW.aload_n (pc' := 76) d_Model_insert_75 rfl rfl ?_
          refine VW.gP (ci := 11) (T := T11) (N := 94) (k := 32) (k' := 32) (pc' := 79) d_Model_insert_76 rfl lk_Model_95 in11 rfl rfl rfl rfl (hM.k rfl) (hM.p (r := some 232) 32 rfl rfl) ?_
          refine VW.iconst (pc' := 80) d_Model_insert_79 rfl (by decide) ?_
          refine VW.iload_n (pc' := 81) d_Model_insert_80 rfl rfl ?_
          refine VW.imul (pc' := 82) d_Model_insert_81 rfl (by omega) ?_
          refine VW.iload (pc' := 84) d_Model_insert_82 rfl rfl ?_
          refine VW.iadd (pc' := 85) d_Model_insert_84 rfl (by omega) ?_
          refine VW.iload (pc' := 87) d_Model_insert_85 rfl rfl ?_
          refine VW.aload_n (pc' := 88) d_Model_insert_87 rfl rfl ?_
          refine VW.gI (ci := 11) (T := T11) (N := 94) (k := 37) (k' := 37) (pc' := 91) d_Model_insert_88 rfl lk_Model_288 in11 rfl rfl rfl rfl (hM.k rfl) (by first | exact mDr_fr (by decide) | rfl) ?_
          refine VW.icmp_ge (tgt := 104) (pc' := 94) d_Model_insert_91 rfl rfl (fun c91 => ?_) (fun c91 => ?_)
          · refine VW.ldc (pc' := 106) (z := -2147483648) d_Model_insert_104 rfl lk_Model_246 (by decide) (by decide) ?_
            refine VW.iast (pc' := 107) d_Model_insert_106 rfl (hM.k rfl) (by omega) (by omega) ?_
            refine VW.nrm ?_
            first | rw [mDr_step h0 (Or.inl ⟨c91, rfl⟩)] | rw [mDr_step h0 (Or.inr ⟨by omega, rfl⟩)]
            refine VW.iinc (pc' := 110) d_Model_insert_107 rfl rfl rfl (by omega) ?_
            refine VW.goto (pc' := 69) d_Model_insert_110 rfl ?_
            refine VW.nrm ?_
            exact ih (c + 1) (by omega) (by omega)
          · refine VW.aload_n (pc' := 95) d_Model_insert_94 rfl rfl ?_
            refine VW.gP (ci := 11) (T := T11) (N := 94) (k := 38) (k' := 38) (pc' := 98) d_Model_insert_95 rfl lk_Model_111 in11 rfl rfl rfl rfl (hM.k rfl) (hM.p (r := some 238) 38 rfl rfl) ?_
            refine VW.iload (pc' := 100) d_Model_insert_98 rfl rfl ?_
            refine VW.ild (pc' := 101) d_Model_insert_100 rfl (hM.k rfl) (by omega) (by omega) (by first | exact mDr_fr (by decide) | rfl) ?_
            refine VW.goto (pc' := 106) d_Model_insert_101 rfl ?_
            refine VW.iast (pc' := 107) d_Model_insert_106 rfl (hM.k rfl) (by omega) (by omega) ?_
            refine VW.nrm ?_
            first | rw [mDr_step h0 (Or.inl ⟨c91, rfl⟩)] | rw [mDr_step h0 (Or.inr ⟨by omega, rfl⟩)]
            refine VW.iinc (pc' := 110) d_Model_insert_107 rfl rfl rfl (by omega) ?_
            refine VW.goto (pc' := 69) d_Model_insert_110 rfl ?_
            refine VW.nrm ?_
            exact ih (c + 1) (by omega) (by omega)
    refine VW.iconst (pc' := 67) d_Model_insert_66 rfl (by decide) ?_
    refine VW.istore (pc' := 69) d_Model_insert_67 rfl rfl ?_
    refine VW.nrm ?_
    have l := loop 4 0 (by omega) (by omega)
    rw [mDr_0] at l
    exact l
  have after : ∀ a : Int, ∀ z : Int, z = cd_Model_insert I i t → VW m_Model_insert false (rmv 8 198) (ex K P J (r_Model_insert n I i t).1 (.inl (some (vI (r_Model_insert n I i t).2)))) K P J (up2 I 100 93 z) 0 0 61 [(0, vR (some 100)), (1, vI i), (2, vI t), (3, vI a)] [vI (bI (0 < z))] := by
    intro a z hz
    unfold r_Model_insert
    rw [← hz]
    have q : ¬ 0 < z → (z = 0 ∧ ((bI (0 ≤ i ∧ i < I 100 19) ≠ 0))) := by
      intro h0
      have hz' := hz
      unfold cd_Model_insert at hz'
      (repeat' split at hz') <;> first | (exfalso; omega) | (refine ⟨by omega, ?_⟩; first | trivial | omega)
    refine VW.if_eq (tgt := 66) (pc' := 64) d_Model_insert_61 rfl rfl (fun c61 => ?_) (fun c61 => ?_)
    · try have e61 := bIe c61
      refine VW.nrm ?_
      rw [callR_0 e61]
      have qq := q e61
      have hz2 := hz.symm.trans qq.1
      rw [qq.1]
      exact rest _ _ rfl hz2 qq.2
    · try have e61 := bIn c61
      refine VW.iconst (pc' := 65) d_Model_insert_64 rfl (by decide) ?_
      exact VW.iret d_Model_insert_65 rfl rfl (Nat.zero_le _) (Nat.zero_le _) (ex_r (callR_1 e61))
  have b0 := hb.trn
  have b1 := hb.tab
  refine VW.aload_n (pc' := 1) d_Model_insert_0 rfl rfl ?_
  refine VW.iload_n (pc' := 2) d_Model_insert_1 rfl rfl ?_
  refine VW.cV (ci := 11) (T := T11) (N := 94) (pc' := 5) d_Model_insert_2 rfl mv_Model_isTransaction lk_Model_376 rfl (hM.k rfl) rfl rfl rfl (Nat.le_refl _) (Nat.le_refl _) (sp_Model_isTransaction hM hb.trn.1) rfl rfl ?_
  refine VW.if_eq (tgt := 20) (pc' := 8) d_Model_insert_5 rfl rfl (fun c5 => ?_) (fun c5 => ?_)
  · try have e5 := bIe c5
    refine VW.iconst (pc' := 21) d_Model_insert_20 rfl (by decide) ?_
    refine VW.istore_n (pc' := 22) d_Model_insert_21 rfl rfl ?_
    refine VW.aload_n (pc' := 23) d_Model_insert_22 rfl rfl ?_
    refine VW.iload_n (pc' := 24) d_Model_insert_23 rfl rfl ?_
    refine VW.if_ne (tgt := 31) (pc' := 27) d_Model_insert_24 rfl rfl (fun c24 => absurd c24 (by decide)) (fun _ => ?_)
    refine VW.iconst (pc' := 28) d_Model_insert_27 rfl (by decide) ?_
    refine VW.goto (pc' := 58) d_Model_insert_28 rfl ?_
    refine VW.cV (ci := 11) (T := T11) (N := 94) (pc' := 61) d_Model_insert_58 rfl mv_Model_fails lk_Model_254 rfl (hM.k rfl) rfl rfl rfl (Nat.le_refl _) (Nat.le_refl _) (sp_Model_fails hM) rfl rfl ?_
    refine VW.pick [0, 1, 2, 3] ?_
    exact after _ _ (by unfold cd_Model_insert; (repeat' split) <;> first | rfl | (exfalso; omega))
  · try have e5 := bIn c5
    refine VW.aload_n (pc' := 9) d_Model_insert_8 rfl rfl ?_
    refine VW.iload_n (pc' := 10) d_Model_insert_9 rfl rfl ?_
    refine VW.cV (ci := 11) (T := T11) (N := 94) (pc' := 13) d_Model_insert_10 rfl mv_Model_isTable lk_Model_242 rfl (hM.k rfl) rfl rfl rfl (Nat.le_refl _) (Nat.le_refl _) (sp_Model_isTable hM hb.tab.1) rfl rfl ?_
    refine VW.if_eq (tgt := 20) (pc' := 16) d_Model_insert_13 rfl rfl (fun c13 => ?_) (fun c13 => ?_)
    · try have e13 := bIe c13
      refine VW.iconst (pc' := 21) d_Model_insert_20 rfl (by decide) ?_
      refine VW.istore_n (pc' := 22) d_Model_insert_21 rfl rfl ?_
      refine VW.aload_n (pc' := 23) d_Model_insert_22 rfl rfl ?_
      refine VW.iload_n (pc' := 24) d_Model_insert_23 rfl rfl ?_
      refine VW.if_ne (tgt := 31) (pc' := 27) d_Model_insert_24 rfl rfl (fun c24 => absurd c24 (by decide)) (fun _ => ?_)
      refine VW.iconst (pc' := 28) d_Model_insert_27 rfl (by decide) ?_
      refine VW.goto (pc' := 58) d_Model_insert_28 rfl ?_
      refine VW.cV (ci := 11) (T := T11) (N := 94) (pc' := 61) d_Model_insert_58 rfl mv_Model_fails lk_Model_254 rfl (hM.k rfl) rfl rfl rfl (Nat.le_refl _) (Nat.le_refl _) (sp_Model_fails hM) rfl rfl ?_
      refine VW.pick [0, 1, 2, 3] ?_
      exact after _ _ (by unfold cd_Model_insert; (repeat' split) <;> first | rfl | (exfalso; omega))
    · try have e13 := bIn c13
      refine VW.iconst (pc' := 17) d_Model_insert_16 rfl (by decide) ?_
      refine VW.goto (pc' := 21) d_Model_insert_17 rfl ?_
      refine VW.istore_n (pc' := 22) d_Model_insert_21 rfl rfl ?_
      refine VW.aload_n (pc' := 23) d_Model_insert_22 rfl rfl ?_
      refine VW.iload_n (pc' := 24) d_Model_insert_23 rfl rfl ?_
      refine VW.if_ne (tgt := 31) (pc' := 27) d_Model_insert_24 rfl rfl (fun _ => ?_) (fun c24 => absurd c24 (by decide))
      have q2 := bIn c5
      have q3 := bIn c13
      refine VW.aload_n (pc' := 32) d_Model_insert_31 rfl rfl ?_
      refine VW.gP (ci := 11) (T := T11) (N := 94) (k := 21) (k' := 21) (pc' := 35) d_Model_insert_32 rfl lk_Model_61 in11 rfl rfl rfl rfl (hM.k rfl) (hM.p (r := some 221) 21 rfl rfl) ?_
      refine VW.iload_n (pc' := 36) d_Model_insert_35 rfl rfl ?_
      refine VW.ild (pc' := 37) d_Model_insert_36 rfl (hM.k rfl) (by omega) (by omega) (by first | assumption | (simp [up2] <;> rfl) | rfl) ?_
      refine VW.if_ne (tgt := 53) (pc' := 40) d_Model_insert_37 rfl rfl (fun c37 => ?_) (fun c37 => ?_)
      · try have e37 := bIn c37
        refine VW.iconst (pc' := 54) d_Model_insert_53 rfl (by decide) ?_
        refine VW.goto (pc' := 58) d_Model_insert_54 rfl ?_
        refine VW.cV (ci := 11) (T := T11) (N := 94) (pc' := 61) d_Model_insert_58 rfl mv_Model_fails lk_Model_254 rfl (hM.k rfl) rfl rfl rfl (Nat.le_refl _) (Nat.le_refl _) (sp_Model_fails hM) rfl rfl ?_
        refine VW.pick [0, 1, 2, 3] ?_
        exact after _ _ (by unfold cd_Model_insert; (repeat' split) <;> first | rfl | (exfalso; omega))
      · try have e37 := bIe c37
        refine VW.aload_n (pc' := 41) d_Model_insert_40 rfl rfl ?_
        refine VW.gI (ci := 11) (T := T11) (N := 94) (k := 37) (k' := 37) (pc' := 44) d_Model_insert_41 rfl lk_Model_288 in11 rfl rfl rfl rfl (hM.k rfl) (by first | assumption | (simp [up2] <;> rfl) | rfl) ?_
        refine VW.aload_n (pc' := 45) d_Model_insert_44 rfl rfl ?_
        refine VW.gP (ci := 11) (T := T11) (N := 94) (k := 1) (k' := 1) (pc' := 48) d_Model_insert_45 rfl lk_Model_7 in11 rfl rfl rfl rfl (hM.k rfl) (hM.p (r := some 201) 1 rfl rfl) ?_
        refine VW.iload_n (pc' := 49) d_Model_insert_48 rfl rfl ?_
        refine VW.ild (pc' := 50) d_Model_insert_49 rfl (hM.k rfl) (by omega) (by omega) (by first | assumption | (simp [up2] <;> rfl) | rfl) ?_
        refine VW.icmp_eq (tgt := 57) (pc' := 53) d_Model_insert_50 rfl rfl (fun c50 => ?_) (fun c50 => ?_)
        · refine VW.iconst (pc' := 58) d_Model_insert_57 rfl (by decide) ?_
          refine VW.cV (ci := 11) (T := T11) (N := 94) (pc' := 61) d_Model_insert_58 rfl mv_Model_fails lk_Model_254 rfl (hM.k rfl) rfl rfl rfl (Nat.le_refl _) (Nat.le_refl _) (sp_Model_fails hM) rfl rfl ?_
          refine VW.pick [0, 1, 2, 3] ?_
          exact after _ _ (by unfold cd_Model_insert; (repeat' split) <;> first | rfl | (exfalso; omega))
        · refine VW.iconst (pc' := 54) d_Model_insert_53 rfl (by decide) ?_
          refine VW.goto (pc' := 58) d_Model_insert_54 rfl ?_
          refine VW.cV (ci := 11) (T := T11) (N := 94) (pc' := 61) d_Model_insert_58 rfl mv_Model_fails lk_Model_254 rfl (hM.k rfl) rfl rfl rfl (Nat.le_refl _) (Nat.le_refl _) (sp_Model_fails hM) rfl rfl ?_
          refine VW.pick [0, 1, 2, 3] ?_
          exact after _ _ (by unfold cd_Model_insert; (repeat' split) <;> first | rfl | (exfalso; omega))
noncomputable def cd_Model_update (I : IT) (i t key c v : Int) : Int := if bI (0 ≤ i ∧ i < I 100 19) = 0 ∨ bI (0 ≤ t ∧ t < I 100 0 ∧ 0 ≤ c ∧ c < I 201 t) = 0 ∨ c ≤ 0 then 1 else if ¬ (v = -2147483648 ∨ bI (-1000 ≤ v ∧ v ≤ 1000) ≠ 0) then 2 else if I 221 i ≠ 0 then 3 else 0
noncomputable def f_Model_update (n : Nat) (i t key c v : Int) (S : IT) : IT × Int := (mSettle n (mAct1 (up2 (up2 (up2 S 229 i key) 230 i c) 231 i v) i 1 t), mTriesV (mAct0 (up2 (up2 (up2 S 229 i key) 230 i c) 231 i v) i 1 t) i)
noncomputable def r_Model_update (n : Nat) (I : IT) (i t key c v : Int) : IT × Int := callR (cd_Model_update I i t key c v) I (f_Model_update n i t key c v)
theorem sp_Model_update {i t key c v : Int} {n : Nat} (hM : MW K P) (hb : MB I) (hp : cd_Model_update I i t key c v = 0 → TryP (mAct0 (up2 (up2 (up2 (up2 I 100 93 0) 229 i key) 230 i c) 231 i v) i 1 t) i ∧ SetOK n (mAct1 (up2 (up2 (up2 (up2 I 100 93 0) 229 i key) 230 i c) 231 i v) i 1 t)) : Sp m_Model_update false (rmv 8 198) (ex K P J (r_Model_update n I i t key c v).1 (.inl (some (vI (r_Model_update n I i t key c v).2)))) K P J I [vR (some 100), vI i, vI t, vI key, vI c, vI v] := by
  refine Sp.ofV (by decide) (Or.inr rfl) rfl ?_
  have rest : ∀ a b : Int, ∀ S : IT, (S = up2 I 100 93 0) → (cd_Model_update I i t key c v = 0) → ((bI (0 ≤ i ∧ i < I 100 19) ≠ 0)) → VW m_Model_update false (rmv 8 198) (ex K P J (f_Model_update n i t key c v S).1 (.inl (some (vI (f_Model_update n i t key c v S).2)))) K P J S 0 0 93 [(0, vR (some 100)), (1, vI i), (2, vI t), (3, vI key), (4, vI c), (5, vI v), (6, vI a), (7, vI b)] [] := by
    intro a b S eS hcd q
    have u : ∀ (o : Nat) (k : Int), (o ≠ 100 ∨ k ≠ 93) → S o k = I o k := fun o k h => by rw [eS]; exact if_neg (fun z => h.elim (fun y => y z.1) (fun y => y z.2))
    have q2 := bIn q
    have b0 := hb.trn
    have hp1 := hp hcd
    rw [← eS] at hp1
    clear u q hp hcd eS
    refine VW.aload_n (pc' := 94) d_Model_update_93 rfl rfl ?_
    refine VW.gP (ci := 11) (T := T11) (N := 94) (k := 29) (k' := 29) (pc' := 97) d_Model_update_94 rfl lk_Model_86 in11 rfl rfl rfl rfl (hM.k rfl) (hM.p (r := some 229) 29 rfl rfl) ?_
    refine VW.iload_n (pc' := 98) d_Model_update_97 rfl rfl ?_
    refine VW.iload_n (pc' := 99) d_Model_update_98 rfl rfl ?_
    refine VW.iast (pc' := 100) d_Model_update_99 rfl (hM.k rfl) (by omega) (by omega) ?_
    refine VW.aload_n (pc' := 101) d_Model_update_100 rfl rfl ?_
    refine VW.gP (ci := 11) (T := T11) (N := 94) (k := 30) (k' := 30) (pc' := 104) d_Model_update_101 rfl lk_Model_89 in11 rfl rfl rfl rfl (hM.k rfl) (hM.p (r := some 230) 30 rfl rfl) ?_
    refine VW.iload_n (pc' := 105) d_Model_update_104 rfl rfl ?_
    refine VW.iload (pc' := 107) d_Model_update_105 rfl rfl ?_
    refine VW.iast (pc' := 108) d_Model_update_107 rfl (hM.k rfl) (by omega) (by omega) ?_
    refine VW.aload_n (pc' := 109) d_Model_update_108 rfl rfl ?_
    refine VW.gP (ci := 11) (T := T11) (N := 94) (k := 31) (k' := 31) (pc' := 112) d_Model_update_109 rfl lk_Model_92 in11 rfl rfl rfl rfl (hM.k rfl) (hM.p (r := some 231) 31 rfl rfl) ?_
    refine VW.iload_n (pc' := 113) d_Model_update_112 rfl rfl ?_
    refine VW.iload (pc' := 115) d_Model_update_113 rfl rfl ?_
    refine VW.iast (pc' := 116) d_Model_update_115 rfl (hM.k rfl) (by omega) (by omega) ?_
    refine VW.aload_n (pc' := 117) d_Model_update_116 rfl rfl ?_
    refine VW.iload_n (pc' := 118) d_Model_update_117 rfl rfl ?_
    refine VW.iconst (pc' := 119) d_Model_update_118 rfl (by decide) ?_
    refine VW.iload_n (pc' := 120) d_Model_update_119 rfl rfl ?_
    refine VW.cV (ci := 11) (T := T11) (N := 94) (pc' := 123) d_Model_update_120 rfl mv_Model_acts lk_Model_379 rfl (hM.k rfl) rfl rfl rfl (Nat.le_refl _) (Nat.le_refl _) (sp_Model_acts (n := n) hM hp1.1 hp1.2) rfl rfl ?_
    exact VW.iret d_Model_update_123 rfl rfl (Nat.zero_le _) (Nat.zero_le _) ex_rf
  have after : ∀ a b : Int, ∀ z : Int, z = cd_Model_update I i t key c v → VW m_Model_update false (rmv 8 198) (ex K P J (r_Model_update n I i t key c v).1 (.inl (some (vI (r_Model_update n I i t key c v).2)))) K P J (up2 I 100 93 z) 0 0 88 [(0, vR (some 100)), (1, vI i), (2, vI t), (3, vI key), (4, vI c), (5, vI v), (6, vI a), (7, vI b)] [vI (bI (0 < z))] := by
    intro a b z hz
    unfold r_Model_update
    rw [← hz]
    have q : ¬ 0 < z → (z = 0 ∧ ((bI (0 ≤ i ∧ i < I 100 19) ≠ 0))) := by
      intro h0
      have hz' := hz
      unfold cd_Model_update at hz'
      (repeat' split at hz') <;> first | (exfalso; omega) | (refine ⟨by omega, ?_⟩; first | trivial | omega)
    refine VW.if_eq (tgt := 93) (pc' := 91) d_Model_update_88 rfl rfl (fun c88 => ?_) (fun c88 => ?_)
    · try have e88 := bIe c88
      refine VW.nrm ?_
      rw [callR_0 e88]
      have qq := q e88
      have hz2 := hz.symm.trans qq.1
      rw [qq.1]
      exact rest _ _ _ rfl hz2 qq.2
    · try have e88 := bIn c88
      refine VW.iconst (pc' := 92) d_Model_update_91 rfl (by decide) ?_
      exact VW.iret d_Model_update_92 rfl rfl (Nat.zero_le _) (Nat.zero_le _) (ex_r (callR_1 e88))
  have b0 := hb.trn
  have b1 := hb.tab
  refine VW.aload_n (pc' := 1) d_Model_update_0 rfl rfl ?_
  refine VW.iload_n (pc' := 2) d_Model_update_1 rfl rfl ?_
  refine VW.cV (ci := 11) (T := T11) (N := 94) (pc' := 5) d_Model_update_2 rfl mv_Model_isTransaction lk_Model_376 rfl (hM.k rfl) rfl rfl rfl (Nat.le_refl _) (Nat.le_refl _) (sp_Model_isTransaction hM hb.trn.1) rfl rfl ?_
  refine VW.if_eq (tgt := 27) (pc' := 8) d_Model_update_5 rfl rfl (fun c5 => ?_) (fun c5 => ?_)
  · try have e5 := bIe c5
    refine VW.iconst (pc' := 28) d_Model_update_27 rfl (by decide) ?_
    refine VW.istore (pc' := 30) d_Model_update_28 rfl rfl ?_
    refine VW.iload (pc' := 32) d_Model_update_30 rfl rfl ?_
    refine VW.ldc (pc' := 34) (z := -2147483648) d_Model_update_32 rfl lk_Model_246 (by decide) (by decide) ?_
    refine VW.icmp_eq (tgt := 45) (pc' := 37) d_Model_update_34 rfl rfl (fun c34 => ?_) (fun c34 => ?_)
    · refine VW.iconst (pc' := 46) d_Model_update_45 rfl (by decide) ?_
      refine VW.goto (pc' := 50) d_Model_update_46 rfl ?_
      refine VW.istore (pc' := 52) d_Model_update_50 rfl rfl ?_
      refine VW.aload_n (pc' := 53) d_Model_update_52 rfl rfl ?_
      refine VW.iload (pc' := 55) d_Model_update_53 rfl rfl ?_
      refine VW.if_ne (tgt := 62) (pc' := 58) d_Model_update_55 rfl rfl (fun c55 => absurd c55 (by decide)) (fun _ => ?_)
      refine VW.iconst (pc' := 59) d_Model_update_58 rfl (by decide) ?_
      refine VW.goto (pc' := 85) d_Model_update_59 rfl ?_
      refine VW.cV (ci := 11) (T := T11) (N := 94) (pc' := 88) d_Model_update_85 rfl mv_Model_fails lk_Model_254 rfl (hM.k rfl) rfl rfl rfl (Nat.le_refl _) (Nat.le_refl _) (sp_Model_fails hM) rfl rfl ?_
      refine VW.pick [0, 1, 2, 3, 4, 5, 6, 7] ?_
      exact after _ _ _ (by unfold cd_Model_update; (repeat' split) <;> first | rfl | (exfalso; omega))
    · refine VW.iload (pc' := 39) d_Model_update_37 rfl rfl ?_
      refine VW.cS (pc' := 42) d_Model_update_39 rfl ms_Model_isValue lk_Model_267 rfl rfl rfl (Nat.le_refl _) (Nat.le_refl _) (sp_Model_isValue) rfl rfl ?_
      refine VW.if_eq (tgt := 49) (pc' := 45) d_Model_update_42 rfl rfl (fun c42 => ?_) (fun c42 => ?_)
      · try have e42 := bIe c42
        refine VW.iconst (pc' := 50) d_Model_update_49 rfl (by decide) ?_
        refine VW.istore (pc' := 52) d_Model_update_50 rfl rfl ?_
        refine VW.aload_n (pc' := 53) d_Model_update_52 rfl rfl ?_
        refine VW.iload (pc' := 55) d_Model_update_53 rfl rfl ?_
        refine VW.if_ne (tgt := 62) (pc' := 58) d_Model_update_55 rfl rfl (fun c55 => absurd c55 (by decide)) (fun _ => ?_)
        refine VW.iconst (pc' := 59) d_Model_update_58 rfl (by decide) ?_
        refine VW.goto (pc' := 85) d_Model_update_59 rfl ?_
        refine VW.cV (ci := 11) (T := T11) (N := 94) (pc' := 88) d_Model_update_85 rfl mv_Model_fails lk_Model_254 rfl (hM.k rfl) rfl rfl rfl (Nat.le_refl _) (Nat.le_refl _) (sp_Model_fails hM) rfl rfl ?_
        refine VW.pick [0, 1, 2, 3, 4, 5, 6, 7] ?_
        exact after _ _ _ (by unfold cd_Model_update; (repeat' split) <;> first | rfl | (exfalso; omega))
      · try have e42 := bIn c42
        refine VW.iconst (pc' := 46) d_Model_update_45 rfl (by decide) ?_
        refine VW.goto (pc' := 50) d_Model_update_46 rfl ?_
        refine VW.istore (pc' := 52) d_Model_update_50 rfl rfl ?_
        refine VW.aload_n (pc' := 53) d_Model_update_52 rfl rfl ?_
        refine VW.iload (pc' := 55) d_Model_update_53 rfl rfl ?_
        refine VW.if_ne (tgt := 62) (pc' := 58) d_Model_update_55 rfl rfl (fun c55 => absurd c55 (by decide)) (fun _ => ?_)
        refine VW.iconst (pc' := 59) d_Model_update_58 rfl (by decide) ?_
        refine VW.goto (pc' := 85) d_Model_update_59 rfl ?_
        refine VW.cV (ci := 11) (T := T11) (N := 94) (pc' := 88) d_Model_update_85 rfl mv_Model_fails lk_Model_254 rfl (hM.k rfl) rfl rfl rfl (Nat.le_refl _) (Nat.le_refl _) (sp_Model_fails hM) rfl rfl ?_
        refine VW.pick [0, 1, 2, 3, 4, 5, 6, 7] ?_
        exact after _ _ _ (by unfold cd_Model_update; (repeat' split) <;> first | rfl | (exfalso; omega))
  · try have e5 := bIn c5
    refine VW.aload_n (pc' := 9) d_Model_update_8 rfl rfl ?_
    refine VW.iload_n (pc' := 10) d_Model_update_9 rfl rfl ?_
    refine VW.iload (pc' := 12) d_Model_update_10 rfl rfl ?_
    refine VW.cV (ci := 11) (T := T11) (N := 94) (pc' := 15) d_Model_update_12 rfl mv_Model_isColumn lk_Model_260 rfl (hM.k rfl) rfl rfl rfl (Nat.le_refl _) (Nat.le_refl _) (sp_Model_isColumn hM hb.tab.1 hb.tab.2 (fun t _ _ => (hb.col t).1)) rfl rfl ?_
    refine VW.if_eq (tgt := 27) (pc' := 18) d_Model_update_15 rfl rfl (fun c15 => ?_) (fun c15 => ?_)
    · try have e15 := bIe c15
      refine VW.iconst (pc' := 28) d_Model_update_27 rfl (by decide) ?_
      refine VW.istore (pc' := 30) d_Model_update_28 rfl rfl ?_
      refine VW.iload (pc' := 32) d_Model_update_30 rfl rfl ?_
      refine VW.ldc (pc' := 34) (z := -2147483648) d_Model_update_32 rfl lk_Model_246 (by decide) (by decide) ?_
      refine VW.icmp_eq (tgt := 45) (pc' := 37) d_Model_update_34 rfl rfl (fun c34 => ?_) (fun c34 => ?_)
      · refine VW.iconst (pc' := 46) d_Model_update_45 rfl (by decide) ?_
        refine VW.goto (pc' := 50) d_Model_update_46 rfl ?_
        refine VW.istore (pc' := 52) d_Model_update_50 rfl rfl ?_
        refine VW.aload_n (pc' := 53) d_Model_update_52 rfl rfl ?_
        refine VW.iload (pc' := 55) d_Model_update_53 rfl rfl ?_
        refine VW.if_ne (tgt := 62) (pc' := 58) d_Model_update_55 rfl rfl (fun c55 => absurd c55 (by decide)) (fun _ => ?_)
        refine VW.iconst (pc' := 59) d_Model_update_58 rfl (by decide) ?_
        refine VW.goto (pc' := 85) d_Model_update_59 rfl ?_
        refine VW.cV (ci := 11) (T := T11) (N := 94) (pc' := 88) d_Model_update_85 rfl mv_Model_fails lk_Model_254 rfl (hM.k rfl) rfl rfl rfl (Nat.le_refl _) (Nat.le_refl _) (sp_Model_fails hM) rfl rfl ?_
        refine VW.pick [0, 1, 2, 3, 4, 5, 6, 7] ?_
        exact after _ _ _ (by unfold cd_Model_update; (repeat' split) <;> first | rfl | (exfalso; omega))
      · refine VW.iload (pc' := 39) d_Model_update_37 rfl rfl ?_
        refine VW.cS (pc' := 42) d_Model_update_39 rfl ms_Model_isValue lk_Model_267 rfl rfl rfl (Nat.le_refl _) (Nat.le_refl _) (sp_Model_isValue) rfl rfl ?_
        refine VW.if_eq (tgt := 49) (pc' := 45) d_Model_update_42 rfl rfl (fun c42 => ?_) (fun c42 => ?_)
        · try have e42 := bIe c42
          refine VW.iconst (pc' := 50) d_Model_update_49 rfl (by decide) ?_
          refine VW.istore (pc' := 52) d_Model_update_50 rfl rfl ?_
          refine VW.aload_n (pc' := 53) d_Model_update_52 rfl rfl ?_
          refine VW.iload (pc' := 55) d_Model_update_53 rfl rfl ?_
          refine VW.if_ne (tgt := 62) (pc' := 58) d_Model_update_55 rfl rfl (fun c55 => absurd c55 (by decide)) (fun _ => ?_)
          refine VW.iconst (pc' := 59) d_Model_update_58 rfl (by decide) ?_
          refine VW.goto (pc' := 85) d_Model_update_59 rfl ?_
          refine VW.cV (ci := 11) (T := T11) (N := 94) (pc' := 88) d_Model_update_85 rfl mv_Model_fails lk_Model_254 rfl (hM.k rfl) rfl rfl rfl (Nat.le_refl _) (Nat.le_refl _) (sp_Model_fails hM) rfl rfl ?_
          refine VW.pick [0, 1, 2, 3, 4, 5, 6, 7] ?_
          exact after _ _ _ (by unfold cd_Model_update; (repeat' split) <;> first | rfl | (exfalso; omega))
        · try have e42 := bIn c42
          refine VW.iconst (pc' := 46) d_Model_update_45 rfl (by decide) ?_
          refine VW.goto (pc' := 50) d_Model_update_46 rfl ?_
          refine VW.istore (pc' := 52) d_Model_update_50 rfl rfl ?_
          refine VW.aload_n (pc' := 53) d_Model_update_52 rfl rfl ?_
          refine VW.iload (pc' := 55) d_Model_update_53 rfl rfl ?_
          refine VW.if_ne (tgt := 62) (pc' := 58) d_Model_update_55 rfl rfl (fun c55 => absurd c55 (by decide)) (fun _ => ?_)
          refine VW.iconst (pc' := 59) d_Model_update_58 rfl (by decide) ?_
          refine VW.goto (pc' := 85) d_Model_update_59 rfl ?_
          refine VW.cV (ci := 11) (T := T11) (N := 94) (pc' := 88) d_Model_update_85 rfl mv_Model_fails lk_Model_254 rfl (hM.k rfl) rfl rfl rfl (Nat.le_refl _) (Nat.le_refl _) (sp_Model_fails hM) rfl rfl ?_
          refine VW.pick [0, 1, 2, 3, 4, 5, 6, 7] ?_
          exact after _ _ _ (by unfold cd_Model_update; (repeat' split) <;> first | rfl | (exfalso; omega))
    · try have e15 := bIn c15
      refine VW.iload (pc' := 20) d_Model_update_18 rfl rfl ?_
      refine VW.if_le (tgt := 27) (pc' := 23) d_Model_update_20 rfl rfl (fun c20 => ?_) (fun c20 => ?_)
      · refine VW.iconst (pc' := 28) d_Model_update_27 rfl (by decide) ?_
        refine VW.istore (pc' := 30) d_Model_update_28 rfl rfl ?_
        refine VW.iload (pc' := 32) d_Model_update_30 rfl rfl ?_
        refine VW.ldc (pc' := 34) (z := -2147483648) d_Model_update_32 rfl lk_Model_246 (by decide) (by decide) ?_
        refine VW.icmp_eq (tgt := 45) (pc' := 37) d_Model_update_34 rfl rfl (fun c34 => ?_) (fun c34 => ?_)
        · refine VW.iconst (pc' := 46) d_Model_update_45 rfl (by decide) ?_
          refine VW.goto (pc' := 50) d_Model_update_46 rfl ?_
          refine VW.istore (pc' := 52) d_Model_update_50 rfl rfl ?_
          refine VW.aload_n (pc' := 53) d_Model_update_52 rfl rfl ?_
          refine VW.iload (pc' := 55) d_Model_update_53 rfl rfl ?_
          refine VW.if_ne (tgt := 62) (pc' := 58) d_Model_update_55 rfl rfl (fun c55 => absurd c55 (by decide)) (fun _ => ?_)
          refine VW.iconst (pc' := 59) d_Model_update_58 rfl (by decide) ?_
          refine VW.goto (pc' := 85) d_Model_update_59 rfl ?_
          refine VW.cV (ci := 11) (T := T11) (N := 94) (pc' := 88) d_Model_update_85 rfl mv_Model_fails lk_Model_254 rfl (hM.k rfl) rfl rfl rfl (Nat.le_refl _) (Nat.le_refl _) (sp_Model_fails hM) rfl rfl ?_
          refine VW.pick [0, 1, 2, 3, 4, 5, 6, 7] ?_
          exact after _ _ _ (by unfold cd_Model_update; (repeat' split) <;> first | rfl | (exfalso; omega))
        · refine VW.iload (pc' := 39) d_Model_update_37 rfl rfl ?_
          refine VW.cS (pc' := 42) d_Model_update_39 rfl ms_Model_isValue lk_Model_267 rfl rfl rfl (Nat.le_refl _) (Nat.le_refl _) (sp_Model_isValue) rfl rfl ?_
          refine VW.if_eq (tgt := 49) (pc' := 45) d_Model_update_42 rfl rfl (fun c42 => ?_) (fun c42 => ?_)
          · try have e42 := bIe c42
            refine VW.iconst (pc' := 50) d_Model_update_49 rfl (by decide) ?_
            refine VW.istore (pc' := 52) d_Model_update_50 rfl rfl ?_
            refine VW.aload_n (pc' := 53) d_Model_update_52 rfl rfl ?_
            refine VW.iload (pc' := 55) d_Model_update_53 rfl rfl ?_
            refine VW.if_ne (tgt := 62) (pc' := 58) d_Model_update_55 rfl rfl (fun c55 => absurd c55 (by decide)) (fun _ => ?_)
            refine VW.iconst (pc' := 59) d_Model_update_58 rfl (by decide) ?_
            refine VW.goto (pc' := 85) d_Model_update_59 rfl ?_
            refine VW.cV (ci := 11) (T := T11) (N := 94) (pc' := 88) d_Model_update_85 rfl mv_Model_fails lk_Model_254 rfl (hM.k rfl) rfl rfl rfl (Nat.le_refl _) (Nat.le_refl _) (sp_Model_fails hM) rfl rfl ?_
            refine VW.pick [0, 1, 2, 3, 4, 5, 6, 7] ?_
            exact after _ _ _ (by unfold cd_Model_update; (repeat' split) <;> first | rfl | (exfalso; omega))
          · try have e42 := bIn c42
            refine VW.iconst (pc' := 46) d_Model_update_45 rfl (by decide) ?_
            refine VW.goto (pc' := 50) d_Model_update_46 rfl ?_
            refine VW.istore (pc' := 52) d_Model_update_50 rfl rfl ?_
            refine VW.aload_n (pc' := 53) d_Model_update_52 rfl rfl ?_
            refine VW.iload (pc' := 55) d_Model_update_53 rfl rfl ?_
            refine VW.if_ne (tgt := 62) (pc' := 58) d_Model_update_55 rfl rfl (fun c55 => absurd c55 (by decide)) (fun _ => ?_)
            refine VW.iconst (pc' := 59) d_Model_update_58 rfl (by decide) ?_
            refine VW.goto (pc' := 85) d_Model_update_59 rfl ?_
            refine VW.cV (ci := 11) (T := T11) (N := 94) (pc' := 88) d_Model_update_85 rfl mv_Model_fails lk_Model_254 rfl (hM.k rfl) rfl rfl rfl (Nat.le_refl _) (Nat.le_refl _) (sp_Model_fails hM) rfl rfl ?_
            refine VW.pick [0, 1, 2, 3, 4, 5, 6, 7] ?_
            exact after _ _ _ (by unfold cd_Model_update; (repeat' split) <;> first | rfl | (exfalso; omega))
      · refine VW.iconst (pc' := 24) d_Model_update_23 rfl (by decide) ?_
        refine VW.goto (pc' := 28) d_Model_update_24 rfl ?_
        refine VW.istore (pc' := 30) d_Model_update_28 rfl rfl ?_
        refine VW.iload (pc' := 32) d_Model_update_30 rfl rfl ?_
        refine VW.ldc (pc' := 34) (z := -2147483648) d_Model_update_32 rfl lk_Model_246 (by decide) (by decide) ?_
        refine VW.icmp_eq (tgt := 45) (pc' := 37) d_Model_update_34 rfl rfl (fun c34 => ?_) (fun c34 => ?_)
        · refine VW.iconst (pc' := 46) d_Model_update_45 rfl (by decide) ?_
          refine VW.goto (pc' := 50) d_Model_update_46 rfl ?_
          refine VW.istore (pc' := 52) d_Model_update_50 rfl rfl ?_
          refine VW.aload_n (pc' := 53) d_Model_update_52 rfl rfl ?_
          refine VW.iload (pc' := 55) d_Model_update_53 rfl rfl ?_
          refine VW.if_ne (tgt := 62) (pc' := 58) d_Model_update_55 rfl rfl (fun _ => ?_) (fun c55 => absurd c55 (by decide))
          refine VW.iload (pc' := 64) d_Model_update_62 rfl rfl ?_
          refine VW.if_ne (tgt := 71) (pc' := 67) d_Model_update_64 rfl rfl (fun _ => ?_) (fun c64 => absurd c64 (by decide))
          have q2 := bIn c5
          refine VW.aload_n (pc' := 72) d_Model_update_71 rfl rfl ?_
          refine VW.gP (ci := 11) (T := T11) (N := 94) (k := 21) (k' := 21) (pc' := 75) d_Model_update_72 rfl lk_Model_61 in11 rfl rfl rfl rfl (hM.k rfl) (hM.p (r := some 221) 21 rfl rfl) ?_
          refine VW.iload_n (pc' := 76) d_Model_update_75 rfl rfl ?_
          refine VW.ild (pc' := 77) d_Model_update_76 rfl (hM.k rfl) (by omega) (by omega) (by first | assumption | (simp [up2] <;> rfl) | rfl) ?_
          refine VW.if_eq (tgt := 84) (pc' := 80) d_Model_update_77 rfl rfl (fun c77 => ?_) (fun c77 => ?_)
          · try have e77 := bIe c77
            refine VW.iconst (pc' := 85) d_Model_update_84 rfl (by decide) ?_
            refine VW.cV (ci := 11) (T := T11) (N := 94) (pc' := 88) d_Model_update_85 rfl mv_Model_fails lk_Model_254 rfl (hM.k rfl) rfl rfl rfl (Nat.le_refl _) (Nat.le_refl _) (sp_Model_fails hM) rfl rfl ?_
            refine VW.pick [0, 1, 2, 3, 4, 5, 6, 7] ?_
            exact after _ _ _ (by unfold cd_Model_update; (repeat' split) <;> first | rfl | (exfalso; omega))
          · try have e77 := bIn c77
            refine VW.iconst (pc' := 81) d_Model_update_80 rfl (by decide) ?_
            refine VW.goto (pc' := 85) d_Model_update_81 rfl ?_
            refine VW.cV (ci := 11) (T := T11) (N := 94) (pc' := 88) d_Model_update_85 rfl mv_Model_fails lk_Model_254 rfl (hM.k rfl) rfl rfl rfl (Nat.le_refl _) (Nat.le_refl _) (sp_Model_fails hM) rfl rfl ?_
            refine VW.pick [0, 1, 2, 3, 4, 5, 6, 7] ?_
            exact after _ _ _ (by unfold cd_Model_update; (repeat' split) <;> first | rfl | (exfalso; omega))
        · refine VW.iload (pc' := 39) d_Model_update_37 rfl rfl ?_
          refine VW.cS (pc' := 42) d_Model_update_39 rfl ms_Model_isValue lk_Model_267 rfl rfl rfl (Nat.le_refl _) (Nat.le_refl _) (sp_Model_isValue) rfl rfl ?_
          refine VW.if_eq (tgt := 49) (pc' := 45) d_Model_update_42 rfl rfl (fun c42 => ?_) (fun c42 => ?_)
          · try have e42 := bIe c42
            refine VW.iconst (pc' := 50) d_Model_update_49 rfl (by decide) ?_
            refine VW.istore (pc' := 52) d_Model_update_50 rfl rfl ?_
            refine VW.aload_n (pc' := 53) d_Model_update_52 rfl rfl ?_
            refine VW.iload (pc' := 55) d_Model_update_53 rfl rfl ?_
            refine VW.if_ne (tgt := 62) (pc' := 58) d_Model_update_55 rfl rfl (fun _ => ?_) (fun c55 => absurd c55 (by decide))
            refine VW.iload (pc' := 64) d_Model_update_62 rfl rfl ?_
            refine VW.if_ne (tgt := 71) (pc' := 67) d_Model_update_64 rfl rfl (fun c64 => absurd c64 (by decide)) (fun _ => ?_)
            refine VW.iconst (pc' := 68) d_Model_update_67 rfl (by decide) ?_
            refine VW.goto (pc' := 85) d_Model_update_68 rfl ?_
            refine VW.cV (ci := 11) (T := T11) (N := 94) (pc' := 88) d_Model_update_85 rfl mv_Model_fails lk_Model_254 rfl (hM.k rfl) rfl rfl rfl (Nat.le_refl _) (Nat.le_refl _) (sp_Model_fails hM) rfl rfl ?_
            refine VW.pick [0, 1, 2, 3, 4, 5, 6, 7] ?_
            exact after _ _ _ (by unfold cd_Model_update; (repeat' split) <;> first | rfl | (exfalso; omega))
          · try have e42 := bIn c42
            refine VW.iconst (pc' := 46) d_Model_update_45 rfl (by decide) ?_
            refine VW.goto (pc' := 50) d_Model_update_46 rfl ?_
            refine VW.istore (pc' := 52) d_Model_update_50 rfl rfl ?_
            refine VW.aload_n (pc' := 53) d_Model_update_52 rfl rfl ?_
            refine VW.iload (pc' := 55) d_Model_update_53 rfl rfl ?_
            refine VW.if_ne (tgt := 62) (pc' := 58) d_Model_update_55 rfl rfl (fun _ => ?_) (fun c55 => absurd c55 (by decide))
            refine VW.iload (pc' := 64) d_Model_update_62 rfl rfl ?_
            refine VW.if_ne (tgt := 71) (pc' := 67) d_Model_update_64 rfl rfl (fun _ => ?_) (fun c64 => absurd c64 (by decide))
            have q2 := bIn c5
            refine VW.aload_n (pc' := 72) d_Model_update_71 rfl rfl ?_
            refine VW.gP (ci := 11) (T := T11) (N := 94) (k := 21) (k' := 21) (pc' := 75) d_Model_update_72 rfl lk_Model_61 in11 rfl rfl rfl rfl (hM.k rfl) (hM.p (r := some 221) 21 rfl rfl) ?_
            refine VW.iload_n (pc' := 76) d_Model_update_75 rfl rfl ?_
            refine VW.ild (pc' := 77) d_Model_update_76 rfl (hM.k rfl) (by omega) (by omega) (by first | assumption | (simp [up2] <;> rfl) | rfl) ?_
            refine VW.if_eq (tgt := 84) (pc' := 80) d_Model_update_77 rfl rfl (fun c77 => ?_) (fun c77 => ?_)
            · try have e77 := bIe c77
              refine VW.iconst (pc' := 85) d_Model_update_84 rfl (by decide) ?_
              refine VW.cV (ci := 11) (T := T11) (N := 94) (pc' := 88) d_Model_update_85 rfl mv_Model_fails lk_Model_254 rfl (hM.k rfl) rfl rfl rfl (Nat.le_refl _) (Nat.le_refl _) (sp_Model_fails hM) rfl rfl ?_
              refine VW.pick [0, 1, 2, 3, 4, 5, 6, 7] ?_
              exact after _ _ _ (by unfold cd_Model_update; (repeat' split) <;> first | rfl | (exfalso; omega))
            · try have e77 := bIn c77
              refine VW.iconst (pc' := 81) d_Model_update_80 rfl (by decide) ?_
              refine VW.goto (pc' := 85) d_Model_update_81 rfl ?_
              refine VW.cV (ci := 11) (T := T11) (N := 94) (pc' := 88) d_Model_update_85 rfl mv_Model_fails lk_Model_254 rfl (hM.k rfl) rfl rfl rfl (Nat.le_refl _) (Nat.le_refl _) (sp_Model_fails hM) rfl rfl ?_
              refine VW.pick [0, 1, 2, 3, 4, 5, 6, 7] ?_
              exact after _ _ _ (by unfold cd_Model_update; (repeat' split) <;> first | rfl | (exfalso; omega))
noncomputable def cd_Model_delete (I : IT) (i t key : Int) : Int := if bI (0 ≤ i ∧ i < I 100 19) = 0 ∨ bI (0 ≤ t ∧ t < I 100 0) = 0 then 1 else if I 221 i ≠ 0 then 2 else 0
noncomputable def f_Model_delete (n : Nat) (i t key : Int) (S : IT) : IT × Int := (mSettle n (mAct1 (up2 S 229 i key) i 2 t), mTriesV (mAct0 (up2 S 229 i key) i 2 t) i)
noncomputable def r_Model_delete (n : Nat) (I : IT) (i t key : Int) : IT × Int := callR (cd_Model_delete I i t key) I (f_Model_delete n i t key)
theorem sp_Model_delete {i t key : Int} {n : Nat} (hM : MW K P) (hb : MB I) (hp : cd_Model_delete I i t key = 0 → TryP (mAct0 (up2 (up2 I 100 93 0) 229 i key) i 2 t) i ∧ SetOK n (mAct1 (up2 (up2 I 100 93 0) 229 i key) i 2 t)) : Sp m_Model_delete false (rmv 8 198) (ex K P J (r_Model_delete n I i t key).1 (.inl (some (vI (r_Model_delete n I i t key).2)))) K P J I [vR (some 100), vI i, vI t, vI key] := by
  refine Sp.ofV (by decide) (Or.inr rfl) rfl ?_
  have rest : ∀ a : Int, ∀ S : IT, (S = up2 I 100 93 0) → (cd_Model_delete I i t key = 0) → ((bI (0 ≤ i ∧ i < I 100 19) ≠ 0)) → VW m_Model_delete false (rmv 8 198) (ex K P J (f_Model_delete n i t key S).1 (.inl (some (vI (f_Model_delete n i t key S).2)))) K P J S 0 0 55 [(0, vR (some 100)), (1, vI i), (2, vI t), (3, vI key), (4, vI a)] [] := by
    intro a S eS hcd q
    have u : ∀ (o : Nat) (k : Int), (o ≠ 100 ∨ k ≠ 93) → S o k = I o k := fun o k h => by rw [eS]; exact if_neg (fun z => h.elim (fun y => y z.1) (fun y => y z.2))
    have q2 := bIn q
    have b0 := hb.trn
    have hp1 := hp hcd
    rw [← eS] at hp1
    clear u q hp hcd eS
    refine VW.aload_n (pc' := 56) d_Model_delete_55 rfl rfl ?_
    refine VW.gP (ci := 11) (T := T11) (N := 94) (k := 29) (k' := 29) (pc' := 59) d_Model_delete_56 rfl lk_Model_86 in11 rfl rfl rfl rfl (hM.k rfl) (hM.p (r := some 229) 29 rfl rfl) ?_
    refine VW.iload_n (pc' := 60) d_Model_delete_59 rfl rfl ?_
    refine VW.iload_n (pc' := 61) d_Model_delete_60 rfl rfl ?_
    refine VW.iast (pc' := 62) d_Model_delete_61 rfl (hM.k rfl) (by omega) (by omega) ?_
    refine VW.aload_n (pc' := 63) d_Model_delete_62 rfl rfl ?_
    refine VW.iload_n (pc' := 64) d_Model_delete_63 rfl rfl ?_
    refine VW.iconst (pc' := 65) d_Model_delete_64 rfl (by decide) ?_
    refine VW.iload_n (pc' := 66) d_Model_delete_65 rfl rfl ?_
    refine VW.cV (ci := 11) (T := T11) (N := 94) (pc' := 69) d_Model_delete_66 rfl mv_Model_acts lk_Model_379 rfl (hM.k rfl) rfl rfl rfl (Nat.le_refl _) (Nat.le_refl _) (sp_Model_acts (n := n) hM hp1.1 hp1.2) rfl rfl ?_
    exact VW.iret d_Model_delete_69 rfl rfl (Nat.zero_le _) (Nat.zero_le _) ex_rf
  have after : ∀ a : Int, ∀ z : Int, z = cd_Model_delete I i t key → VW m_Model_delete false (rmv 8 198) (ex K P J (r_Model_delete n I i t key).1 (.inl (some (vI (r_Model_delete n I i t key).2)))) K P J (up2 I 100 93 z) 0 0 50 [(0, vR (some 100)), (1, vI i), (2, vI t), (3, vI key), (4, vI a)] [vI (bI (0 < z))] := by
    intro a z hz
    unfold r_Model_delete
    rw [← hz]
    have q : ¬ 0 < z → (z = 0 ∧ ((bI (0 ≤ i ∧ i < I 100 19) ≠ 0))) := by
      intro h0
      have hz' := hz
      unfold cd_Model_delete at hz'
      (repeat' split at hz') <;> first | (exfalso; omega) | (refine ⟨by omega, ?_⟩; first | trivial | omega)
    refine VW.if_eq (tgt := 55) (pc' := 53) d_Model_delete_50 rfl rfl (fun c50 => ?_) (fun c50 => ?_)
    · try have e50 := bIe c50
      refine VW.nrm ?_
      rw [callR_0 e50]
      have qq := q e50
      have hz2 := hz.symm.trans qq.1
      rw [qq.1]
      exact rest _ _ rfl hz2 qq.2
    · try have e50 := bIn c50
      refine VW.iconst (pc' := 54) d_Model_delete_53 rfl (by decide) ?_
      exact VW.iret d_Model_delete_54 rfl rfl (Nat.zero_le _) (Nat.zero_le _) (ex_r (callR_1 e50))
  have b0 := hb.trn
  have b1 := hb.tab
  refine VW.aload_n (pc' := 1) d_Model_delete_0 rfl rfl ?_
  refine VW.iload_n (pc' := 2) d_Model_delete_1 rfl rfl ?_
  refine VW.cV (ci := 11) (T := T11) (N := 94) (pc' := 5) d_Model_delete_2 rfl mv_Model_isTransaction lk_Model_376 rfl (hM.k rfl) rfl rfl rfl (Nat.le_refl _) (Nat.le_refl _) (sp_Model_isTransaction hM hb.trn.1) rfl rfl ?_
  refine VW.if_eq (tgt := 20) (pc' := 8) d_Model_delete_5 rfl rfl (fun c5 => ?_) (fun c5 => ?_)
  · try have e5 := bIe c5
    refine VW.iconst (pc' := 21) d_Model_delete_20 rfl (by decide) ?_
    refine VW.istore (pc' := 23) d_Model_delete_21 rfl rfl ?_
    refine VW.aload_n (pc' := 24) d_Model_delete_23 rfl rfl ?_
    refine VW.iload (pc' := 26) d_Model_delete_24 rfl rfl ?_
    refine VW.if_ne (tgt := 33) (pc' := 29) d_Model_delete_26 rfl rfl (fun c26 => absurd c26 (by decide)) (fun _ => ?_)
    refine VW.iconst (pc' := 30) d_Model_delete_29 rfl (by decide) ?_
    refine VW.goto (pc' := 47) d_Model_delete_30 rfl ?_
    refine VW.cV (ci := 11) (T := T11) (N := 94) (pc' := 50) d_Model_delete_47 rfl mv_Model_fails lk_Model_254 rfl (hM.k rfl) rfl rfl rfl (Nat.le_refl _) (Nat.le_refl _) (sp_Model_fails hM) rfl rfl ?_
    refine VW.pick [0, 1, 2, 3, 4] ?_
    exact after _ _ (by unfold cd_Model_delete; (repeat' split) <;> first | rfl | (exfalso; omega))
  · try have e5 := bIn c5
    refine VW.aload_n (pc' := 9) d_Model_delete_8 rfl rfl ?_
    refine VW.iload_n (pc' := 10) d_Model_delete_9 rfl rfl ?_
    refine VW.cV (ci := 11) (T := T11) (N := 94) (pc' := 13) d_Model_delete_10 rfl mv_Model_isTable lk_Model_242 rfl (hM.k rfl) rfl rfl rfl (Nat.le_refl _) (Nat.le_refl _) (sp_Model_isTable hM hb.tab.1) rfl rfl ?_
    refine VW.if_eq (tgt := 20) (pc' := 16) d_Model_delete_13 rfl rfl (fun c13 => ?_) (fun c13 => ?_)
    · try have e13 := bIe c13
      refine VW.iconst (pc' := 21) d_Model_delete_20 rfl (by decide) ?_
      refine VW.istore (pc' := 23) d_Model_delete_21 rfl rfl ?_
      refine VW.aload_n (pc' := 24) d_Model_delete_23 rfl rfl ?_
      refine VW.iload (pc' := 26) d_Model_delete_24 rfl rfl ?_
      refine VW.if_ne (tgt := 33) (pc' := 29) d_Model_delete_26 rfl rfl (fun c26 => absurd c26 (by decide)) (fun _ => ?_)
      refine VW.iconst (pc' := 30) d_Model_delete_29 rfl (by decide) ?_
      refine VW.goto (pc' := 47) d_Model_delete_30 rfl ?_
      refine VW.cV (ci := 11) (T := T11) (N := 94) (pc' := 50) d_Model_delete_47 rfl mv_Model_fails lk_Model_254 rfl (hM.k rfl) rfl rfl rfl (Nat.le_refl _) (Nat.le_refl _) (sp_Model_fails hM) rfl rfl ?_
      refine VW.pick [0, 1, 2, 3, 4] ?_
      exact after _ _ (by unfold cd_Model_delete; (repeat' split) <;> first | rfl | (exfalso; omega))
    · try have e13 := bIn c13
      refine VW.iconst (pc' := 17) d_Model_delete_16 rfl (by decide) ?_
      refine VW.goto (pc' := 21) d_Model_delete_17 rfl ?_
      refine VW.istore (pc' := 23) d_Model_delete_21 rfl rfl ?_
      refine VW.aload_n (pc' := 24) d_Model_delete_23 rfl rfl ?_
      refine VW.iload (pc' := 26) d_Model_delete_24 rfl rfl ?_
      refine VW.if_ne (tgt := 33) (pc' := 29) d_Model_delete_26 rfl rfl (fun _ => ?_) (fun c26 => absurd c26 (by decide))
      have q2 := bIn c5
      refine VW.aload_n (pc' := 34) d_Model_delete_33 rfl rfl ?_
      refine VW.gP (ci := 11) (T := T11) (N := 94) (k := 21) (k' := 21) (pc' := 37) d_Model_delete_34 rfl lk_Model_61 in11 rfl rfl rfl rfl (hM.k rfl) (hM.p (r := some 221) 21 rfl rfl) ?_
      refine VW.iload_n (pc' := 38) d_Model_delete_37 rfl rfl ?_
      refine VW.ild (pc' := 39) d_Model_delete_38 rfl (hM.k rfl) (by omega) (by omega) (by first | assumption | (simp [up2] <;> rfl) | rfl) ?_
      refine VW.if_eq (tgt := 46) (pc' := 42) d_Model_delete_39 rfl rfl (fun c39 => ?_) (fun c39 => ?_)
      · try have e39 := bIe c39
        refine VW.iconst (pc' := 47) d_Model_delete_46 rfl (by decide) ?_
        refine VW.cV (ci := 11) (T := T11) (N := 94) (pc' := 50) d_Model_delete_47 rfl mv_Model_fails lk_Model_254 rfl (hM.k rfl) rfl rfl rfl (Nat.le_refl _) (Nat.le_refl _) (sp_Model_fails hM) rfl rfl ?_
        refine VW.pick [0, 1, 2, 3, 4] ?_
        exact after _ _ (by unfold cd_Model_delete; (repeat' split) <;> first | rfl | (exfalso; omega))
      · try have e39 := bIn c39
        refine VW.iconst (pc' := 43) d_Model_delete_42 rfl (by decide) ?_
        refine VW.goto (pc' := 47) d_Model_delete_43 rfl ?_
        refine VW.cV (ci := 11) (T := T11) (N := 94) (pc' := 50) d_Model_delete_47 rfl mv_Model_fails lk_Model_254 rfl (hM.k rfl) rfl rfl rfl (Nat.le_refl _) (Nat.le_refl _) (sp_Model_fails hM) rfl rfl ?_
        refine VW.pick [0, 1, 2, 3, 4] ?_
        exact after _ _ (by unfold cd_Model_delete; (repeat' split) <;> first | rfl | (exfalso; omega))
noncomputable def cd_Model_abort (I : IT) (i : Int) : Int := if bI (0 ≤ i ∧ i < I 100 19) = 0 then 1 else if I 221 i < 2 then 0 else 2
noncomputable def f_Model_abort (n : Nat) (i : Int) (S : IT) : IT × Int := (mSettle n (mAborts S i), mAbortsN S i)
noncomputable def r_Model_abort (n : Nat) (I : IT) (i : Int) : IT × Int := callR (cd_Model_abort I i) I (f_Model_abort n i)
theorem sp_Model_abort {i : Int} {n : Nat} (hM : MW K P) (hb : MB I) (hp : cd_Model_abort I i = 0 → (0 ≤ I 100 44 ∧ (mAb i (I 100 44).toNat (up2 I 100 93 0) 0).1 100 44 < 16384) ∧ SetOK n (mAborts (up2 I 100 93 0) i)) : Sp m_Model_abort false (rmv 7 174) (ex K P J (r_Model_abort n I i).1 (.inl (some (vI (r_Model_abort n I i).2)))) K P J I [vR (some 100), vI i] := by
  refine Sp.ofV (by decide) (Or.inr rfl) rfl ?_
  have rest : ∀ a : Int, ∀ S : IT, (S = up2 I 100 93 0) → (cd_Model_abort I i = 0) → ((bI (0 ≤ i ∧ i < I 100 19) ≠ 0)) → VW m_Model_abort false (rmv 7 174) (ex K P J (f_Model_abort n i S).1 (.inl (some (vI (f_Model_abort n i S).2)))) K P J S 0 0 38 [(0, vR (some 100)), (1, vI i), (2, vI a)] [] := by
    intro a S eS hcd q
    have u : ∀ (o : Nat) (k : Int), (o ≠ 100 ∨ k ≠ 93) → S o k = I o k := fun o k h => by rw [eS]; exact if_neg (fun z => h.elim (fun y => y z.1) (fun y => y z.2))
    have q2 := bIn q
    have b0 := hb.trn
    have hp1 := hp hcd
    have p0 := hb.pla i
    rw [← u 223 i (Or.inl (by decide))] at p0
    rw [← eS, ← u 100 44 (by decide)] at hp1
    clear u q hp hcd eS
    refine VW.aload_n (pc' := 39) d_Model_abort_38 rfl rfl ?_
    refine VW.iload_n (pc' := 40) d_Model_abort_39 rfl rfl ?_
    refine VW.cV (ci := 11) (T := T11) (N := 94) (pc' := 43) d_Model_abort_40 rfl mv_Model_aborts lk_Model_359 rfl (hM.k rfl) rfl rfl rfl (Nat.le_refl _) (Nat.le_refl _) (sp_Model_aborts hM (by omega) p0 hp1.1.1 hp1.1.2) rfl rfl ?_
    refine VW.istore_n (pc' := 44) d_Model_abort_43 rfl rfl ?_
    refine VW.aload_n (pc' := 45) d_Model_abort_44 rfl rfl ?_
    refine VW.cV (ci := 11) (T := T11) (N := 94) (pc' := 48) d_Model_abort_45 rfl mv_Model_settles lk_Model_373 rfl (hM.k rfl) rfl rfl rfl (Nat.le_refl _) (Nat.le_refl _) (sp_Model_settles (n := n) hM hp1.2) rfl rfl ?_
    refine VW.iload_n (pc' := 49) d_Model_abort_48 rfl rfl ?_
    exact VW.iret d_Model_abort_49 rfl rfl (Nat.zero_le _) (Nat.zero_le _) ex_rf
  have after : ∀ a : Int, ∀ z : Int, z = cd_Model_abort I i → VW m_Model_abort false (rmv 7 174) (ex K P J (r_Model_abort n I i).1 (.inl (some (vI (r_Model_abort n I i).2)))) K P J (up2 I 100 93 z) 0 0 33 [(0, vR (some 100)), (1, vI i), (2, vI a)] [vI (bI (0 < z))] := by
    intro a z hz
    unfold r_Model_abort
    rw [← hz]
    have q : ¬ 0 < z → (z = 0 ∧ ((bI (0 ≤ i ∧ i < I 100 19) ≠ 0))) := by
      intro h0
      have hz' := hz
      unfold cd_Model_abort at hz'
      (repeat' split at hz') <;> first | (exfalso; omega) | (refine ⟨by omega, ?_⟩; first | trivial | omega)
    refine VW.if_eq (tgt := 38) (pc' := 36) d_Model_abort_33 rfl rfl (fun c33 => ?_) (fun c33 => ?_)
    · try have e33 := bIe c33
      refine VW.nrm ?_
      rw [callR_0 e33]
      have qq := q e33
      have hz2 := hz.symm.trans qq.1
      rw [qq.1]
      exact rest _ _ rfl hz2 qq.2
    · try have e33 := bIn c33
      refine VW.iconst (pc' := 37) d_Model_abort_36 rfl (by decide) ?_
      exact VW.iret d_Model_abort_37 rfl rfl (Nat.zero_le _) (Nat.zero_le _) (ex_r (callR_1 e33))
  have b0 := hb.trn
  refine VW.aload_n (pc' := 1) d_Model_abort_0 rfl rfl ?_
  refine VW.iload_n (pc' := 2) d_Model_abort_1 rfl rfl ?_
  refine VW.cV (ci := 11) (T := T11) (N := 94) (pc' := 5) d_Model_abort_2 rfl mv_Model_isTransaction lk_Model_376 rfl (hM.k rfl) rfl rfl rfl (Nat.le_refl _) (Nat.le_refl _) (sp_Model_isTransaction hM hb.trn.1) rfl rfl ?_
  refine VW.istore_n (pc' := 6) d_Model_abort_5 rfl rfl ?_
  refine VW.aload_n (pc' := 7) d_Model_abort_6 rfl rfl ?_
  refine VW.iload_n (pc' := 8) d_Model_abort_7 rfl rfl ?_
  refine VW.if_ne (tgt := 15) (pc' := 11) d_Model_abort_8 rfl rfl (fun c8 => ?_) (fun c8 => ?_)
  · try have e8 := bIn c8
    have q2 := bIn c8
    refine VW.aload_n (pc' := 16) d_Model_abort_15 rfl rfl ?_
    refine VW.gP (ci := 11) (T := T11) (N := 94) (k := 21) (k' := 21) (pc' := 19) d_Model_abort_16 rfl lk_Model_61 in11 rfl rfl rfl rfl (hM.k rfl) (hM.p (r := some 221) 21 rfl rfl) ?_
    refine VW.iload_n (pc' := 20) d_Model_abort_19 rfl rfl ?_
    refine VW.ild (pc' := 21) d_Model_abort_20 rfl (hM.k rfl) (by omega) (by omega) (by first | assumption | (simp [up2] <;> rfl) | rfl) ?_
    refine VW.iconst (pc' := 22) d_Model_abort_21 rfl (by decide) ?_
    refine VW.icmp_ge (tgt := 29) (pc' := 25) d_Model_abort_22 rfl rfl (fun c22 => ?_) (fun c22 => ?_)
    · refine VW.iconst (pc' := 30) d_Model_abort_29 rfl (by decide) ?_
      refine VW.cV (ci := 11) (T := T11) (N := 94) (pc' := 33) d_Model_abort_30 rfl mv_Model_fails lk_Model_254 rfl (hM.k rfl) rfl rfl rfl (Nat.le_refl _) (Nat.le_refl _) (sp_Model_fails hM) rfl rfl ?_
      refine VW.pick [0, 1, 2] ?_
      exact after _ _ (by unfold cd_Model_abort; (repeat' split) <;> first | rfl | (exfalso; omega))
    · refine VW.iconst (pc' := 26) d_Model_abort_25 rfl (by decide) ?_
      refine VW.goto (pc' := 30) d_Model_abort_26 rfl ?_
      refine VW.cV (ci := 11) (T := T11) (N := 94) (pc' := 33) d_Model_abort_30 rfl mv_Model_fails lk_Model_254 rfl (hM.k rfl) rfl rfl rfl (Nat.le_refl _) (Nat.le_refl _) (sp_Model_fails hM) rfl rfl ?_
      refine VW.pick [0, 1, 2] ?_
      exact after _ _ (by unfold cd_Model_abort; (repeat' split) <;> first | rfl | (exfalso; omega))
  · try have e8 := bIe c8
    refine VW.iconst (pc' := 12) d_Model_abort_11 rfl (by decide) ?_
    refine VW.goto (pc' := 30) d_Model_abort_12 rfl ?_
    refine VW.cV (ci := 11) (T := T11) (N := 94) (pc' := 33) d_Model_abort_30 rfl mv_Model_fails lk_Model_254 rfl (hM.k rfl) rfl rfl rfl (Nat.le_refl _) (Nat.le_refl _) (sp_Model_fails hM) rfl rfl ?_
    refine VW.pick [0, 1, 2] ?_
    exact after _ _ (by unfold cd_Model_abort; (repeat' split) <;> first | rfl | (exfalso; omega))
end
