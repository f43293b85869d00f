section
variable {K : KT} {P : PT} {J I : IT}
/-- what an update reads -/
noncomputable def mUpdS (I : IT) (i : Int) : IT := mReadsRef (mReadsKey I i (I 228 i) (I 229 i)) i (I 228 i) (I 230 i) (I 231 i)
theorem mUpdS_fr {i : Int} (o : Nat) (k : Int) (h1 : o ≠ 233) (h2 : o ≠ 234) (h3 : o ≠ 235) : mUpdS I i o k = I o k := (mReadsRef_fr o k h1 h2 h3).trans (mReadsKey_fr o k h1 h2 h3)
noncomputable def mUpdOk (S T : IT) (i : Int) : Prop := mfind S (S 223 i) (S 228 i) (S 229 i) ≠ -1 ∧ mSeen T (T 220 i) (T 223 i) (S 228 i) (mfind S (S 223 i) (S 228 i) (S 229 i)) ∧ (mCheckOk T (S 228 i) (T 230 i) (T 231 i) ∧ mRefOk T (T 223 i) (S 228 i) (T 230 i) (T 231 i))
theorem mwants_fr {t key : Int} (o : Nat) (k : Int) (h1 : o ≠ 242) (h2 : o ≠ 243) (h3 : o ≠ 100 ∨ k ≠ 41) : mwants I t key o k = I o k := by
  unfold mwants up2
  rw [if_neg (fun z => h3.elim (fun q => q z.1) (fun q => q z.2)), if_neg (fun z => h2 z.1), if_neg (fun z => h1 z.1)]
theorem MB.fw {t key : Int} (h : MB I) : MB (mwants I t key) :=
  h.of (mwants_fr 100 0 (by decide) (by decide) (Or.inr (by decide))) (mwants_fr 100 8 (by decide) (by decide) (Or.inr (by decide))) (mwants_fr 100 19 (by decide) (by decide) (Or.inr (by decide))) (fun k => mwants_fr 201 k (by decide) (by decide) (Or.inl (by decide))) (fun k => mwants_fr 202 k (by decide) (by decide) (Or.inl (by decide))) (fun k => mwants_fr 206 k (by decide) (by decide) (Or.inl (by decide))) (fun k => mwants_fr 211 k (by decide) (by decide) (Or.inl (by decide))) (fun k => by rw [mwants_fr 214 k (by decide) (by decide) (Or.inl (by decide))]; exact h.row k) (fun k => mwants_fr 223 k (by decide) (by decide) (Or.inl (by decide))) (fun k => by rw [mwants_fr 236 k (by decide) (by decide) (Or.inl (by decide))]; exact h.who k)
theorem sp_Model_wantsUpdate {i : Int} (hM : MW K P) (hb : MB I) (hi : 0 ≤ i ∧ i < 60) (ht : 0 ≤ I 228 i ∧ I 228 i < 6) (hc : 0 ≤ I 230 i ∧ I 230 i < 4) (hn : 0 ≤ I 233 i ∧ I 233 i ≤ 2040) (hw : 0 ≤ I 100 41 ∧ I 100 41 < 384) : Sp m_Model_wantsUpdate false (rmv 3 75) (ex K P J (mwants (mUpdS I i) (I 228 i) (I 229 i)) (.inl (some (vI (bI (mUpdOk (mUpdS I i) (mwants (mUpdS I i) (I 228 i) (I 229 i)) i)))))) K P J I [vR (some 100), vI i] := by
  refine Sp.ofV (by decide) (Or.inr rfl) rfl ?_
  have fin : ∀ (T : IT) (t r : Int), MB T → (0 ≤ T 230 i ∧ T 230 i < 4) → (0 ≤ t ∧ t < 6) → (r = -1 ∨ (0 ≤ r ∧ r < 64)) → VW m_Model_wantsUpdate false (rmv 3 75) (ex K P J T (.inl (some (vI (bI (r ≠ -1 ∧ mSeen T (T 220 i) (T 223 i) t r ∧ (mCheckOk T t (T 230 i) (T 231 i) ∧ mRefOk T (T 223 i) t (T 230 i) (T 231 i)))))))) K P J T 0 0 66 [(0, vR (some 100)), (1, vI i), (2, vI t), (3, vI r)] [] := by
    intro T t r hT w230 h1 h2
    clear hb
    have q0 := hT.pla i
    refine VW.iload_n (pc' := 67) d_Model_wantsUpdate_66 rfl rfl ?_
    refine VW.iconst (pc' := 68) d_Model_wantsUpdate_67 rfl (by decide) ?_
    refine VW.icmp_eq (tgt := 122) (pc' := 71) d_Model_wantsUpdate_68 rfl rfl (fun c68 => ?_) (fun c68 => ?_)
    · refine VW.iconst (pc' := 123) d_Model_wantsUpdate_122 rfl (by decide) ?_
      exact VW.iret d_Model_wantsUpdate_123 rfl rfl (Nat.zero_le _) (Nat.zero_le _) (by first | exact ex_v (bI1 ⟨c68, e89, e115⟩) | exact ex_v (bI0 (fun z => z.1 c68)) | exact ex_v (bI0 (fun z => e89 z.2.1)) | exact ex_v (bI0 (fun z => e115 z.2.2)))
    · refine VW.aload_n (pc' := 72) d_Model_wantsUpdate_71 rfl rfl ?_
      refine VW.aload_n (pc' := 73) d_Model_wantsUpdate_72 rfl rfl ?_
      refine VW.gP (ci := 11) (T := T11) (N := 94) (k := 20) (k' := 20) (pc' := 76) d_Model_wantsUpdate_73 rfl lk_Model_58 in11 rfl rfl rfl rfl (hM.k rfl) (hM.p (r := some 220) 20 rfl rfl) ?_
      refine VW.iload_n (pc' := 77) d_Model_wantsUpdate_76 rfl rfl ?_
      refine VW.ild (pc' := 78) d_Model_wantsUpdate_77 rfl (hM.k rfl) (by omega) (by omega) (rfl) ?_
      refine VW.aload_n (pc' := 79) d_Model_wantsUpdate_78 rfl rfl ?_
      refine VW.gP (ci := 11) (T := T11) (N := 94) (k := 23) (k' := 23) (pc' := 82) d_Model_wantsUpdate_79 rfl lk_Model_67 in11 rfl rfl rfl rfl (hM.k rfl) (hM.p (r := some 223) 23 rfl rfl) ?_
      refine VW.iload_n (pc' := 83) d_Model_wantsUpdate_82 rfl rfl ?_
      refine VW.ild (pc' := 84) d_Model_wantsUpdate_83 rfl (hM.k rfl) (by omega) (by omega) (rfl) ?_
      refine VW.iload_n (pc' := 85) d_Model_wantsUpdate_84 rfl rfl ?_
      refine VW.iload_n (pc' := 86) d_Model_wantsUpdate_85 rfl rfl ?_
      refine VW.cV (ci := 11) (T := T11) (N := 94) (pc' := 89) d_Model_wantsUpdate_86 rfl mv_Model_isSeen lk_Model_325 rfl (hM.k rfl) rfl rfl rfl (Nat.le_refl _) (Nat.le_refl _) (sp_Model_isSeen hM hT (by omega) (by omega) (by omega)) rfl rfl ?_
      refine VW.if_eq (tgt := 122) (pc' := 92) d_Model_wantsUpdate_89 rfl rfl (fun c89 => ?_) (fun c89 => ?_)
      · try have e89 := bIe c89
        refine VW.iconst (pc' := 123) d_Model_wantsUpdate_122 rfl (by decide) ?_
        exact VW.iret d_Model_wantsUpdate_123 rfl rfl (Nat.zero_le _) (Nat.zero_le _) (by first | exact ex_v (bI1 ⟨c68, e89, e115⟩) | exact ex_v (bI0 (fun z => z.1 c68)) | exact ex_v (bI0 (fun z => e89 z.2.1)) | exact ex_v (bI0 (fun z => e115 z.2.2)))
      · try have e89 := bIn c89
        refine VW.aload_n (pc' := 93) d_Model_wantsUpdate_92 rfl rfl ?_
        refine VW.aload_n (pc' := 94) d_Model_wantsUpdate_93 rfl rfl ?_
        refine VW.gP (ci := 11) (T := T11) (N := 94) (k := 23) (k' := 23) (pc' := 97) d_Model_wantsUpdate_94 rfl lk_Model_67 in11 rfl rfl rfl rfl (hM.k rfl) (hM.p (r := some 223) 23 rfl rfl) ?_
        refine VW.iload_n (pc' := 98) d_Model_wantsUpdate_97 rfl rfl ?_
        refine VW.ild (pc' := 99) d_Model_wantsUpdate_98 rfl (hM.k rfl) (by omega) (by omega) (rfl) ?_
        refine VW.iload_n (pc' := 100) d_Model_wantsUpdate_99 rfl rfl ?_
        refine VW.aload_n (pc' := 101) d_Model_wantsUpdate_100 rfl rfl ?_
        refine VW.gP (ci := 11) (T := T11) (N := 94) (k := 30) (k' := 30) (pc' := 104) d_Model_wantsUpdate_101 rfl lk_Model_89 in11 rfl rfl rfl rfl (hM.k rfl) (hM.p (r := some 230) 30 rfl rfl) ?_
        refine VW.iload_n (pc' := 105) d_Model_wantsUpdate_104 rfl rfl ?_
        refine VW.ild (pc' := 106) d_Model_wantsUpdate_105 rfl (hM.k rfl) (by omega) (by omega) (rfl) ?_
        refine VW.aload_n (pc' := 107) d_Model_wantsUpdate_106 rfl rfl ?_
        refine VW.gP (ci := 11) (T := T11) (N := 94) (k := 31) (k' := 31) (pc' := 110) d_Model_wantsUpdate_107 rfl lk_Model_92 in11 rfl rfl rfl rfl (hM.k rfl) (hM.p (r := some 231) 31 rfl rfl) ?_
        refine VW.iload_n (pc' := 111) d_Model_wantsUpdate_110 rfl rfl ?_
        refine VW.ild (pc' := 112) d_Model_wantsUpdate_111 rfl (hM.k rfl) (by omega) (by omega) (rfl) ?_
        refine VW.cV (ci := 11) (T := T11) (N := 94) (pc' := 115) d_Model_wantsUpdate_112 rfl mv_Model_isAllowed lk_Model_318 rfl (hM.k rfl) rfl rfl rfl (Nat.le_refl _) (Nat.le_refl _) (sp_Model_isAllowed hM hT (by omega) (by omega) (by omega)) rfl rfl ?_
        refine VW.if_eq (tgt := 122) (pc' := 118) d_Model_wantsUpdate_115 rfl rfl (fun c115 => ?_) (fun c115 => ?_)
        · try have e115 := bIe c115
          refine VW.iconst (pc' := 123) d_Model_wantsUpdate_122 rfl (by decide) ?_
          exact VW.iret d_Model_wantsUpdate_123 rfl rfl (Nat.zero_le _) (Nat.zero_le _) (by first | exact ex_v (bI1 ⟨c68, e89, e115⟩) | exact ex_v (bI0 (fun z => z.1 c68)) | exact ex_v (bI0 (fun z => e89 z.2.1)) | exact ex_v (bI0 (fun z => e115 z.2.2)))
        · try have e115 := bIn c115
          refine VW.iconst (pc' := 119) d_Model_wantsUpdate_118 rfl (by decide) ?_
          refine VW.goto (pc' := 123) d_Model_wantsUpdate_119 rfl ?_
          exact VW.iret d_Model_wantsUpdate_123 rfl rfl (Nat.zero_le _) (Nat.zero_le _) (by first | exact ex_v (bI1 ⟨c68, e89, e115⟩) | exact ex_v (bI0 (fun z => z.1 c68)) | exact ex_v (bI0 (fun z => e89 z.2.1)) | exact ex_v (bI0 (fun z => e115 z.2.2)))
  have mid : ∀ (S : IT), S = mUpdS I i → VW m_Model_wantsUpdate false (rmv 3 75) (ex K P J (mwants (mUpdS I i) (I 228 i) (I 229 i)) (.inl (some (vI (bI (mUpdOk (mUpdS I i) (mwants (mUpdS I i) (I 228 i) (I 229 i)) i)))))) K P J S 0 0 37 [(0, vR (some 100)), (1, vI i), (2, vI (I 228 i))] [] := by
    intro S hS0
    have fr := fun o k h1 h2 h3 => (congrFun (congrFun hS0 o) k).trans (@mUpdS_fr I i o k h1 h2 h3)
    rw [← hS0]
    have hS : MB S := hb.fr fr
    have f228 := fr 228 i (by decide) (by decide) (by decide)
    have f229 := fr 229 i (by decide) (by decide) (by decide)
    have f230 := fr 230 i (by decide) (by decide) (by decide)
    have f41 := fr 100 41 (by decide) (by decide) (by decide)
    have p0 := hS.pla i
    have r0 := hS.row (6 * S 223 i + I 228 i)
    have m0 := mfind_rg S (S 223 i) (I 228 i) (I 229 i)
    have hT : MB (mwants S (I 228 i) (I 229 i)) := hS.fw
    have w230 : 0 ≤ mwants S (I 228 i) (I 229 i) 230 i ∧ mwants S (I 228 i) (I 229 i) 230 i < 4 := by rw [mwants_fr 230 i (by decide) (by decide) (Or.inl (by decide)), f230]; exact hc
    unfold mUpdOk
    rw [f228, f229]
    clear hb fr f230 hS0
    refine VW.aload_n (pc' := 38) d_Model_wantsUpdate_37 rfl rfl ?_
    refine VW.aload_n (pc' := 39) d_Model_wantsUpdate_38 rfl rfl ?_
    refine VW.gP (ci := 11) (T := T11) (N := 94) (k := 23) (k' := 23) (pc' := 42) d_Model_wantsUpdate_39 rfl lk_Model_67 in11 rfl rfl rfl rfl (hM.k rfl) (hM.p (r := some 223) 23 rfl rfl) ?_
    refine VW.iload_n (pc' := 43) d_Model_wantsUpdate_42 rfl rfl ?_
    refine VW.ild (pc' := 44) d_Model_wantsUpdate_43 rfl (hM.k rfl) (by omega) (by omega) (by first | exact f229 | rfl) ?_
    refine VW.iload_n (pc' := 45) d_Model_wantsUpdate_44 rfl rfl ?_
    refine VW.aload_n (pc' := 46) d_Model_wantsUpdate_45 rfl rfl ?_
    refine VW.gP (ci := 11) (T := T11) (N := 94) (k := 29) (k' := 29) (pc' := 49) d_Model_wantsUpdate_46 rfl lk_Model_86 in11 rfl rfl rfl rfl (hM.k rfl) (hM.p (r := some 229) 29 rfl rfl) ?_
    refine VW.iload_n (pc' := 50) d_Model_wantsUpdate_49 rfl rfl ?_
    refine VW.ild (pc' := 51) d_Model_wantsUpdate_50 rfl (hM.k rfl) (by omega) (by omega) (by first | exact f229 | rfl) ?_
    refine VW.cV (ci := 11) (T := T11) (N := 94) (pc' := 54) d_Model_wantsUpdate_51 rfl mv_Model_find lk_Model_305 rfl (hM.k rfl) rfl rfl rfl (Nat.le_refl _) (Nat.le_refl _) (sp_Model_find hM (by omega) (by omega) (by omega)) rfl rfl ?_
    refine VW.istore_n (pc' := 55) d_Model_wantsUpdate_54 rfl rfl ?_
    refine VW.aload_n (pc' := 56) d_Model_wantsUpdate_55 rfl rfl ?_
    refine VW.iload_n (pc' := 57) d_Model_wantsUpdate_56 rfl rfl ?_
    refine VW.aload_n (pc' := 58) d_Model_wantsUpdate_57 rfl rfl ?_
    refine VW.gP (ci := 11) (T := T11) (N := 94) (k := 29) (k' := 29) (pc' := 61) d_Model_wantsUpdate_58 rfl lk_Model_86 in11 rfl rfl rfl rfl (hM.k rfl) (hM.p (r := some 229) 29 rfl rfl) ?_
    refine VW.iload_n (pc' := 62) d_Model_wantsUpdate_61 rfl rfl ?_
    refine VW.ild (pc' := 63) d_Model_wantsUpdate_62 rfl (hM.k rfl) (by omega) (by omega) (by first | exact f229 | rfl) ?_
    refine VW.cV (ci := 11) (T := T11) (N := 94) (pc' := 66) d_Model_wantsUpdate_63 rfl mv_Model_wants lk_Model_322 rfl (hM.k rfl) rfl rfl rfl (Nat.le_refl _) (Nat.le_refl _) (sp_Model_wants hM (by omega)) rfl rfl ?_
    refine VW.nrm ?_
    exact fin (mwants S (I 228 i) (I 229 i)) (I 228 i) (mfind S (S 223 i) (I 228 i) (I 229 i)) hT w230 ht (by omega)
  have pre : ∀ (S1 : IT), S1 = mReadsKey I i (I 228 i) (I 229 i) → VW m_Model_wantsUpdate false (rmv 3 75) (ex K P J (mwants (mUpdS I i) (I 228 i) (I 229 i)) (.inl (some (vI (bI (mUpdOk (mUpdS I i) (mwants (mUpdS I i) (I 228 i) (I 229 i)) i)))))) K P J S1 0 0 19 [(0, vR (some 100)), (1, vI i), (2, vI (I 228 i))] [] := by
    intro S1 e1
    have mid1 := mid (mReadsRef S1 i (I 228 i) (I 230 i) (I 231 i)) (by rw [e1]; rfl)
    clear mid fin
    have fr : ∀ (o : Nat) (k : Int), o ≠ 233 → o ≠ 234 → o ≠ 235 → S1 o k = I o k := fun o k h1 h2 h3 => by rw [e1]; exact mReadsKey_fr o k h1 h2 h3
    have g1 : S1 233 i ≤ I 233 i + 1 ∧ I 233 i ≤ S1 233 i := by rw [e1]; have := @mReadsKey_n I i (I 228 i) (I 229 i); exact ⟨this.2, this.1⟩
    have hb1 : MB S1 := hb.fr fr
    have a230 := fr 230 i (by decide) (by decide) (by decide)
    have a231 := fr 231 i (by decide) (by decide) (by decide)
    clear e1 fr hb
    refine VW.aload_n (pc' := 20) d_Model_wantsUpdate_19 rfl rfl ?_
    refine VW.iload_n (pc' := 21) d_Model_wantsUpdate_20 rfl rfl ?_
    refine VW.iload_n (pc' := 22) d_Model_wantsUpdate_21 rfl rfl ?_
    refine VW.aload_n (pc' := 23) d_Model_wantsUpdate_22 rfl rfl ?_
    refine VW.gP (ci := 11) (T := T11) (N := 94) (k := 30) (k' := 30) (pc' := 26) d_Model_wantsUpdate_23 rfl lk_Model_89 in11 rfl rfl rfl rfl (hM.k rfl) (hM.p (r := some 230) 30 rfl rfl) ?_
    refine VW.iload_n (pc' := 27) d_Model_wantsUpdate_26 rfl rfl ?_
    refine VW.ild (pc' := 28) d_Model_wantsUpdate_27 rfl (hM.k rfl) (by omega) (by omega) (by first | exact a230 | exact a231 | rfl) ?_
    refine VW.aload_n (pc' := 29) d_Model_wantsUpdate_28 rfl rfl ?_
    refine VW.gP (ci := 11) (T := T11) (N := 94) (k := 31) (k' := 31) (pc' := 32) d_Model_wantsUpdate_29 rfl lk_Model_92 in11 rfl rfl rfl rfl (hM.k rfl) (hM.p (r := some 231) 31 rfl rfl) ?_
    refine VW.iload_n (pc' := 33) d_Model_wantsUpdate_32 rfl rfl ?_
    refine VW.ild (pc' := 34) d_Model_wantsUpdate_33 rfl (hM.k rfl) (by omega) (by omega) (by first | exact a230 | exact a231 | rfl) ?_
    refine VW.cV (ci := 11) (T := T11) (N := 94) (pc' := 37) d_Model_wantsUpdate_34 rfl mv_Model_readsReference lk_Model_315 rfl (hM.k rfl) rfl rfl rfl (Nat.le_refl _) (Nat.le_refl _) (sp_Model_readsReference hM hb1 hi ht (by omega) (by omega)) rfl rfl ?_
    refine VW.nrm ?_
    exact mid1
  refine VW.aload_n (pc' := 1) d_Model_wantsUpdate_0 rfl rfl ?_
  refine VW.gP (ci := 11) (T := T11) (N := 94) (k := 28) (k' := 28) (pc' := 4) d_Model_wantsUpdate_1 rfl lk_Model_83 in11 rfl rfl rfl rfl (hM.k rfl) (hM.p (r := some 228) 28 rfl rfl) ?_
  refine VW.iload_n (pc' := 5) d_Model_wantsUpdate_4 rfl rfl ?_
  refine VW.ild (pc' := 6) d_Model_wantsUpdate_5 rfl (hM.k rfl) (by omega) (by omega) (by first | assumption | (simp [up2] <;> rfl) | rfl) ?_
  refine VW.istore_n (pc' := 7) d_Model_wantsUpdate_6 rfl rfl ?_
  refine VW.aload_n (pc' := 8) d_Model_wantsUpdate_7 rfl rfl ?_
  refine VW.iload_n (pc' := 9) d_Model_wantsUpdate_8 rfl rfl ?_
  refine VW.iload_n (pc' := 10) d_Model_wantsUpdate_9 rfl rfl ?_
  refine VW.aload_n (pc' := 11) d_Model_wantsUpdate_10 rfl rfl ?_
  refine VW.gP (ci := 11) (T := T11) (N := 94) (k := 29) (k' := 29) (pc' := 14) d_Model_wantsUpdate_11 rfl lk_Model_86 in11 rfl rfl rfl rfl (hM.k rfl) (hM.p (r := some 229) 29 rfl rfl) ?_
  refine VW.iload_n (pc' := 15) d_Model_wantsUpdate_14 rfl rfl ?_
  refine VW.ild (pc' := 16) d_Model_wantsUpdate_15 rfl (hM.k rfl) (by omega) (by omega) (by first | assumption | (simp [up2] <;> rfl) | rfl) ?_
  refine VW.cV (ci := 11) (T := T11) (N := 94) (pc' := 19) d_Model_wantsUpdate_16 rfl mv_Model_readsKey lk_Model_308 rfl (hM.k rfl) rfl rfl rfl (Nat.le_refl _) (Nat.le_refl _) (sp_Model_readsKey hM hb hi ht (by omega)) rfl rfl ?_
  refine VW.nrm ?_
  exact pre _ rfl
end
