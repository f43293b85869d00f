section
variable {K : KT} {P : PT} {J I : IT}
def mOne (I : IT) : Int := if 1 < I 100 51 then I 254 (I 100 51 - 2) else 0
def mTwo (I : IT) : Int := if 1 < I 100 51 then I 254 (I 100 51 - 1) else 0
theorem mOne_1 (h : 1 < I 100 51) : I 254 (I 100 51 - 2) = mOne I := (if_pos h).symm
theorem mOne_0 (h : ¬ 1 < I 100 51) : 0 = mOne I := (if_neg h).symm
theorem mTwo_1 (h : 1 < I 100 51) : I 254 (I 100 51 - 1) = mTwo I := (if_pos h).symm
theorem mTwo_0 (h : ¬ 1 < I 100 51) : 0 = mTwo I := (if_neg h).symm
theorem mOne_rg (hq : QB I) : 0 ≤ mOne I ∧ mOne I ≤ 10 := by
  by_cases h : 1 < I 100 51
  · rw [← mOne_1 h]; exact hq.wd _
  · rw [← mOne_0 h]; decide
theorem mTwo_rg (hq : QB I) : 0 ≤ mTwo I ∧ mTwo I ≤ 10 := by
  by_cases h : 1 < I 100 51
  · rw [← mTwo_1 h]; exact hq.wd _
  · rw [← mTwo_0 h]; decide
noncomputable def cd_Model_join (I : IT) (w a b : Int) : Int := if I 100 51 < 2 ∨ bI (I 100 52 = 12) ≠ 0 ∨ (10 < mOne I + mTwo I ∧ w ≠ 3 ∧ w ≠ 4) then 1 else if bI (0 ≤ a ∧ a ≤ mOne I - 1) = 0 ∨ bI (0 ≤ b ∧ b ≤ mTwo I - 1) = 0 then 2 else if bI (0 ≤ w ∧ w ≤ 4) ≠ 0 then 0 else 3
noncomputable def f_Model_join  (w a b : Int) (S : IT) : IT × Int := (up2 (up2 (mAdd S 4 w a b 0) 100 51 (S 100 51 - 1)) 254 (S 100 51 - 1 - 1) (if 2 < w then mOne S else mOne S + mTwo S), S 100 51 - 1)
noncomputable def r_Model_join  (I : IT) (w a b : Int) : IT × Int := callR (cd_Model_join I w a b) I (f_Model_join  w a b)
theorem sp_Model_join {w a b : Int} (hM : MW K P) (hq : QB I) : Sp m_Model_join false (rmv 1 25) (ex K P J (r_Model_join  I w a b).1 (.inl (some (vI (r_Model_join  I w a b).2)))) K P J I [vR (some 100), vI w, vI a, vI b] := by
  refine Sp.ofV (by decide) (Or.inr rfl) rfl ?_
  have rest : ∀ c d : Int, ∀ S : IT, (S = up2 I 100 93 0) → (cd_Model_join I w a b = 0) → ((2 ≤ I 100 51) ∧ (bI (I 100 52 = 12) = 0)) → VW m_Model_join false (rmv 1 25) (ex K P J (f_Model_join  w a b S).1 (.inl (some (vI (f_Model_join  w a b S).2)))) K P J S 0 0 164 [(0, vR (some 100)), (1, vI w), (2, vI a), (3, vI b), (4, vI (mOne I)), (5, vI (mTwo I)), (6, vI c), (7, vI d)] [] := by
    intro c d S eS hcd q
    have u : ∀ (o : Nat) (k : Int), (o ≠ 100 ∨ k ≠ 93) → S o k = I o k := fun o k h => by rw [eS]; exact if_neg (fun z => h.elim (fun y => y z.1) (fun y => y z.2))
    have b0 := hq.op
    have q1 := bIe q.2
    have a52 : 0 ≤ S 100 52 ∧ S 100 52 < 252 := by rw [u 100 52 (by decide)]; omega
    have b1 := hq.tr
    have a51 : 2 ≤ S 100 51 ∧ S 100 51 ≤ 6 := by rw [u 100 51 (by decide)]; omega
    have r1 := mOne_rg hq
    have r2 := mTwo_rg hq
    have e1 : mOne I = mOne S := by unfold mOne; rw [u 100 51 (by decide), u 254 _ (Or.inl (by decide))]
    have e2 : mTwo I = mTwo S := by unfold mTwo; rw [u 100 51 (by decide), u 254 _ (Or.inl (by decide))]
    rw [e1, e2]
    rw [e1] at r1
    rw [e2] at r2
    clear e1 e2 u eS q hcd
    refine VW.aload_n (pc' := 165) d_Model_join_164 rfl rfl ?_
    refine VW.iconst (pc' := 166) d_Model_join_165 rfl (by decide) ?_
    refine VW.iload_n (pc' := 167) d_Model_join_166 rfl rfl ?_
    refine VW.iload_n (pc' := 168) d_Model_join_167 rfl rfl ?_
    refine VW.iload_n (pc' := 169) d_Model_join_168 rfl rfl ?_
    refine VW.iconst (pc' := 170) d_Model_join_169 rfl (by decide) ?_
    refine VW.cV (ci := 11) (T := T11) (N := 94) (pc' := 173) d_Model_join_170 rfl mv_Model_adds lk_Model_415 rfl (hM.k rfl) rfl rfl rfl (Nat.le_refl _) (Nat.le_refl _) (sp_Model_adds hM a52 (Or.inl rfl)) rfl rfl ?_
    refine VW.aload_n (pc' := 174) d_Model_join_173 rfl rfl ?_
    refine VW.dup (pc' := 175) d_Model_join_174 rfl rfl ?_
    refine VW.gI (ci := 11) (T := T11) (N := 94) (k := 51) (k' := 51) (pc' := 178) d_Model_join_175 rfl lk_Model_406 in11 rfl rfl rfl rfl (hM.k rfl) (by first | exact up2_eq _ _ _ _ | (simp [up2, mAdd] <;> rfl) | rfl) ?_
    refine VW.iconst (pc' := 179) d_Model_join_178 rfl (by decide) ?_
    refine VW.isub (pc' := 180) d_Model_join_179 rfl (by omega) ?_
    refine VW.pI (ci := 11) (T := T11) (N := 94) (k := 51) (k' := 51) (ty := ty11) (pc' := 183) d_Model_join_180 rfl lk_Model_406 in11 tk11 nm11 rfl rfl rfl rfl rfl rfl (hM.k rfl) ?_
    refine VW.aload_n (pc' := 184) d_Model_join_183 rfl rfl ?_
    refine VW.gP (ci := 11) (T := T11) (N := 94) (k := 54) (k' := 54) (pc' := 187) d_Model_join_184 rfl lk_Model_141 in11 rfl rfl rfl rfl (hM.k rfl) (hM.p (r := some 254) 54 rfl rfl) ?_
    refine VW.aload_n (pc' := 188) d_Model_join_187 rfl rfl ?_
    refine VW.gI (ci := 11) (T := T11) (N := 94) (k := 51) (k' := 51) (pc' := 191) d_Model_join_188 rfl lk_Model_406 in11 rfl rfl rfl rfl (hM.k rfl) (by first | exact up2_eq _ _ _ _ | (simp [up2, mAdd] <;> rfl) | rfl) ?_
    refine VW.iconst (pc' := 192) d_Model_join_191 rfl (by decide) ?_
    refine VW.isub (pc' := 193) d_Model_join_192 rfl (by omega) ?_
    refine VW.iload_n (pc' := 194) d_Model_join_193 rfl rfl ?_
    refine VW.iconst (pc' := 195) d_Model_join_194 rfl (by decide) ?_
    refine VW.icmp_le (tgt := 203) (pc' := 198) d_Model_join_195 rfl rfl (fun c195 => ?_) (fun c195 => ?_)
    · refine VW.iload (pc' := 205) d_Model_join_203 rfl rfl ?_
      refine VW.iload (pc' := 207) d_Model_join_205 rfl rfl ?_
      refine VW.iadd (pc' := 208) d_Model_join_207 rfl (by omega) ?_
      refine VW.iast (pc' := 209) d_Model_join_208 rfl (hM.k rfl) (by omega) (by omega) ?_
      refine VW.aload_n (pc' := 210) d_Model_join_209 rfl rfl ?_
      refine VW.gI (ci := 11) (T := T11) (N := 94) (k := 51) (k' := 51) (pc' := 213) d_Model_join_210 rfl lk_Model_406 in11 rfl rfl rfl rfl (hM.k rfl) (by first | exact up2_eq _ _ _ _ | (simp [up2, mAdd] <;> rfl) | rfl) ?_
      exact VW.iret d_Model_join_213 rfl rfl (Nat.zero_le _) (Nat.zero_le _) (by first | exact ex_r (by unfold f_Model_join; rw [if_pos (by omega)]) | exact ex_r (by unfold f_Model_join; rw [if_neg (by omega)]))
    · refine VW.iload (pc' := 200) d_Model_join_198 rfl rfl ?_
      refine VW.goto (pc' := 208) d_Model_join_200 rfl ?_
      refine VW.iast (pc' := 209) d_Model_join_208 rfl (hM.k rfl) (by omega) (by omega) ?_
      refine VW.aload_n (pc' := 210) d_Model_join_209 rfl rfl ?_
      refine VW.gI (ci := 11) (T := T11) (N := 94) (k := 51) (k' := 51) (pc' := 213) d_Model_join_210 rfl lk_Model_406 in11 rfl rfl rfl rfl (hM.k rfl) (by first | exact up2_eq _ _ _ _ | (simp [up2, mAdd] <;> rfl) | rfl) ?_
      exact VW.iret d_Model_join_213 rfl rfl (Nat.zero_le _) (Nat.zero_le _) (by first | exact ex_r (by unfold f_Model_join; rw [if_pos (by omega)]) | exact ex_r (by unfold f_Model_join; rw [if_neg (by omega)]))
  have after : ∀ c d : Int, ∀ z : Int, z = cd_Model_join I w a b → VW m_Model_join false (rmv 1 25) (ex K P J (r_Model_join  I w a b).1 (.inl (some (vI (r_Model_join  I w a b).2)))) K P J (up2 I 100 93 z) 0 0 159 [(0, vR (some 100)), (1, vI w), (2, vI a), (3, vI b), (4, vI (mOne I)), (5, vI (mTwo I)), (6, vI c), (7, vI d)] [vI (bI (0 < z))] := by
    intro c d z hz
    unfold r_Model_join
    rw [← hz]
    have q : ¬ 0 < z → (z = 0 ∧ ((2 ≤ I 100 51) ∧ (bI (I 100 52 = 12) = 0))) := by
      intro h0
      have hz' := hz
      unfold cd_Model_join at hz'
      (repeat' split at hz') <;> first | (exfalso; omega) | (refine ⟨by omega, ?_⟩; first | trivial | omega)
    refine VW.if_eq (tgt := 164) (pc' := 162) d_Model_join_159 rfl rfl (fun c159 => ?_) (fun c159 => ?_)
    · try have e159 := bIe c159
      refine VW.nrm ?_
      rw [callR_0 e159]
      have qq := q e159
      have hz2 := hz.symm.trans qq.1
      rw [qq.1]
      exact rest _ _ _ rfl hz2 qq.2
    · try have e159 := bIn c159
      refine VW.iconst (pc' := 163) d_Model_join_162 rfl (by decide) ?_
      exact VW.iret d_Model_join_163 rfl rfl (Nat.zero_le _) (Nat.zero_le _) (ex_r (callR_1 e159))
  have b0 := hq.tr
  have b1 := hq.op
  have b2 := hq.sc
  have mid2 : ∀ p : Int, p = mTwo I → VW m_Model_join false (rmv 1 25) (ex K P J (r_Model_join  I w a b).1 (.inl (some (vI (r_Model_join  I w a b).2)))) K P J I 0 0 50 [(0, vR (some 100)), (1, vI w), (2, vI a), (3, vI b), (4, vI (mOne I)), (5, vI (p))] [] := by
    intro p hp
    subst hp
    have r1 := mOne_rg hq
    have r2 := mTwo_rg hq
    refine VW.iload (pc' := 52) d_Model_join_50 rfl rfl ?_
    refine VW.iload (pc' := 54) d_Model_join_52 rfl rfl ?_
    refine VW.iadd (pc' := 55) d_Model_join_54 rfl (by omega) ?_
    refine VW.bipush (pc' := 57) d_Model_join_55 rfl (by decide) ?_
    refine VW.icmp_le (tgt := 74) (pc' := 60) d_Model_join_57 rfl rfl (fun c57 => ?_) (fun c57 => ?_)
    · refine VW.iconst (pc' := 75) d_Model_join_74 rfl (by decide) ?_
      refine VW.istore (pc' := 77) d_Model_join_75 rfl rfl ?_
      refine VW.iload_n (pc' := 78) d_Model_join_77 rfl rfl ?_
      refine VW.iconst (pc' := 79) d_Model_join_78 rfl (by decide) ?_
      refine VW.iload (pc' := 81) d_Model_join_79 rfl rfl ?_
      refine VW.iconst (pc' := 82) d_Model_join_81 rfl (by decide) ?_
      refine VW.isub (pc' := 83) d_Model_join_82 rfl (by omega) ?_
      refine VW.cS (pc' := 86) d_Model_join_83 rfl ms_Model_isIn lk_Model_235 rfl rfl rfl (Nat.le_refl _) (Nat.le_refl _) (sp_Model_isIn) rfl rfl ?_
      refine VW.if_eq (tgt := 105) (pc' := 89) d_Model_join_86 rfl rfl (fun c86 => ?_) (fun c86 => ?_)
      · try have e86 := bIe c86
        refine VW.iconst (pc' := 106) d_Model_join_105 rfl (by decide) ?_
        refine VW.istore (pc' := 108) d_Model_join_106 rfl rfl ?_
        refine VW.aload_n (pc' := 109) d_Model_join_108 rfl rfl ?_
        refine VW.aload_n (pc' := 110) d_Model_join_109 rfl rfl ?_
        refine VW.gI (ci := 11) (T := T11) (N := 94) (k := 51) (k' := 51) (pc' := 113) d_Model_join_110 rfl lk_Model_406 in11 rfl rfl rfl rfl (hM.k rfl) (by first | assumption | (simp [up2] <;> rfl) | rfl) ?_
        refine VW.iconst (pc' := 114) d_Model_join_113 rfl (by decide) ?_
        refine VW.icmp_lt (tgt := 129) (pc' := 117) d_Model_join_114 rfl rfl (fun c114 => ?_) (fun c114 => ?_)
        · refine VW.iconst (pc' := 130) d_Model_join_129 rfl (by decide) ?_
          refine VW.goto (pc' := 156) d_Model_join_130 rfl ?_
          refine VW.cV (ci := 11) (T := T11) (N := 94) (pc' := 159) d_Model_join_156 rfl mv_Model_fails lk_Model_254 rfl (hM.k rfl) rfl rfl rfl (Nat.le_refl _) (Nat.le_refl _) (sp_Model_fails hM) rfl rfl ?_
          refine VW.nrm ?_
          exact after _ _ _ (by unfold cd_Model_join; (repeat' split) <;> first | rfl | (exfalso; omega))
        · refine VW.aload_n (pc' := 118) d_Model_join_117 rfl rfl ?_
          refine VW.cV (ci := 11) (T := T11) (N := 94) (pc' := 121) d_Model_join_118 rfl mv_Model_isFull lk_Model_409 rfl (hM.k rfl) rfl rfl rfl (Nat.le_refl _) (Nat.le_refl _) (sp_Model_isFull hM) rfl rfl ?_
          refine VW.if_ne (tgt := 129) (pc' := 124) d_Model_join_121 rfl rfl (fun c121 => ?_) (fun c121 => ?_)
          · try have e121 := bIn c121
            refine VW.iconst (pc' := 130) d_Model_join_129 rfl (by decide) ?_
            refine VW.goto (pc' := 156) d_Model_join_130 rfl ?_
            refine VW.cV (ci := 11) (T := T11) (N := 94) (pc' := 159) d_Model_join_156 rfl mv_Model_fails lk_Model_254 rfl (hM.k rfl) rfl rfl rfl (Nat.le_refl _) (Nat.le_refl _) (sp_Model_fails hM) rfl rfl ?_
            refine VW.nrm ?_
            exact after _ _ _ (by unfold cd_Model_join; (repeat' split) <;> first | rfl | (exfalso; omega))
          · try have e121 := bIe c121
            refine VW.iload (pc' := 126) d_Model_join_124 rfl rfl ?_
            refine VW.if_eq (tgt := 133) (pc' := 129) d_Model_join_126 rfl rfl (fun _ => ?_) (fun c126 => absurd c126 (by decide))
            refine VW.iload (pc' := 135) d_Model_join_133 rfl rfl ?_
            refine VW.if_ne (tgt := 142) (pc' := 138) d_Model_join_135 rfl rfl (fun c135 => absurd c135 (by decide)) (fun _ => ?_)
            refine VW.iconst (pc' := 139) d_Model_join_138 rfl (by decide) ?_
            refine VW.goto (pc' := 156) d_Model_join_139 rfl ?_
            refine VW.cV (ci := 11) (T := T11) (N := 94) (pc' := 159) d_Model_join_156 rfl mv_Model_fails lk_Model_254 rfl (hM.k rfl) rfl rfl rfl (Nat.le_refl _) (Nat.le_refl _) (sp_Model_fails hM) rfl rfl ?_
            refine VW.nrm ?_
            exact after _ _ _ (by unfold cd_Model_join; (repeat' split) <;> first | rfl | (exfalso; omega))
      · try have e86 := bIn c86
        refine VW.iload_n (pc' := 90) d_Model_join_89 rfl rfl ?_
        refine VW.iconst (pc' := 91) d_Model_join_90 rfl (by decide) ?_
        refine VW.iload (pc' := 93) d_Model_join_91 rfl rfl ?_
        refine VW.iconst (pc' := 94) d_Model_join_93 rfl (by decide) ?_
        refine VW.isub (pc' := 95) d_Model_join_94 rfl (by omega) ?_
        refine VW.cS (pc' := 98) d_Model_join_95 rfl ms_Model_isIn lk_Model_235 rfl rfl rfl (Nat.le_refl _) (Nat.le_refl _) (sp_Model_isIn) rfl rfl ?_
        refine VW.if_eq (tgt := 105) (pc' := 101) d_Model_join_98 rfl rfl (fun c98 => ?_) (fun c98 => ?_)
        · try have e98 := bIe c98
          refine VW.iconst (pc' := 106) d_Model_join_105 rfl (by decide) ?_
          refine VW.istore (pc' := 108) d_Model_join_106 rfl rfl ?_
          refine VW.aload_n (pc' := 109) d_Model_join_108 rfl rfl ?_
          refine VW.aload_n (pc' := 110) d_Model_join_109 rfl rfl ?_
          refine VW.gI (ci := 11) (T := T11) (N := 94) (k := 51) (k' := 51) (pc' := 113) d_Model_join_110 rfl lk_Model_406 in11 rfl rfl rfl rfl (hM.k rfl) (by first | assumption | (simp [up2] <;> rfl) | rfl) ?_
          refine VW.iconst (pc' := 114) d_Model_join_113 rfl (by decide) ?_
          refine VW.icmp_lt (tgt := 129) (pc' := 117) d_Model_join_114 rfl rfl (fun c114 => ?_) (fun c114 => ?_)
          · refine VW.iconst (pc' := 130) d_Model_join_129 rfl (by decide) ?_
            refine VW.goto (pc' := 156) d_Model_join_130 rfl ?_
            refine VW.cV (ci := 11) (T := T11) (N := 94) (pc' := 159) d_Model_join_156 rfl mv_Model_fails lk_Model_254 rfl (hM.k rfl) rfl rfl rfl (Nat.le_refl _) (Nat.le_refl _) (sp_Model_fails hM) rfl rfl ?_
            refine VW.nrm ?_
            exact after _ _ _ (by unfold cd_Model_join; (repeat' split) <;> first | rfl | (exfalso; omega))
          · refine VW.aload_n (pc' := 118) d_Model_join_117 rfl rfl ?_
            refine VW.cV (ci := 11) (T := T11) (N := 94) (pc' := 121) d_Model_join_118 rfl mv_Model_isFull lk_Model_409 rfl (hM.k rfl) rfl rfl rfl (Nat.le_refl _) (Nat.le_refl _) (sp_Model_isFull hM) rfl rfl ?_
            refine VW.if_ne (tgt := 129) (pc' := 124) d_Model_join_121 rfl rfl (fun c121 => ?_) (fun c121 => ?_)
            · try have e121 := bIn c121
              refine VW.iconst (pc' := 130) d_Model_join_129 rfl (by decide) ?_
              refine VW.goto (pc' := 156) d_Model_join_130 rfl ?_
              refine VW.cV (ci := 11) (T := T11) (N := 94) (pc' := 159) d_Model_join_156 rfl mv_Model_fails lk_Model_254 rfl (hM.k rfl) rfl rfl rfl (Nat.le_refl _) (Nat.le_refl _) (sp_Model_fails hM) rfl rfl ?_
              refine VW.nrm ?_
              exact after _ _ _ (by unfold cd_Model_join; (repeat' split) <;> first | rfl | (exfalso; omega))
            · try have e121 := bIe c121
              refine VW.iload (pc' := 126) d_Model_join_124 rfl rfl ?_
              refine VW.if_eq (tgt := 133) (pc' := 129) d_Model_join_126 rfl rfl (fun _ => ?_) (fun c126 => absurd c126 (by decide))
              refine VW.iload (pc' := 135) d_Model_join_133 rfl rfl ?_
              refine VW.if_ne (tgt := 142) (pc' := 138) d_Model_join_135 rfl rfl (fun c135 => absurd c135 (by decide)) (fun _ => ?_)
              refine VW.iconst (pc' := 139) d_Model_join_138 rfl (by decide) ?_
              refine VW.goto (pc' := 156) d_Model_join_139 rfl ?_
              refine VW.cV (ci := 11) (T := T11) (N := 94) (pc' := 159) d_Model_join_156 rfl mv_Model_fails lk_Model_254 rfl (hM.k rfl) rfl rfl rfl (Nat.le_refl _) (Nat.le_refl _) (sp_Model_fails hM) rfl rfl ?_
              refine VW.nrm ?_
              exact after _ _ _ (by unfold cd_Model_join; (repeat' split) <;> first | rfl | (exfalso; omega))
        · try have e98 := bIn c98
          refine VW.iconst (pc' := 102) d_Model_join_101 rfl (by decide) ?_
          refine VW.goto (pc' := 106) d_Model_join_102 rfl ?_
          refine VW.istore (pc' := 108) d_Model_join_106 rfl rfl ?_
          refine VW.aload_n (pc' := 109) d_Model_join_108 rfl rfl ?_
          refine VW.aload_n (pc' := 110) d_Model_join_109 rfl rfl ?_
          refine VW.gI (ci := 11) (T := T11) (N := 94) (k := 51) (k' := 51) (pc' := 113) d_Model_join_110 rfl lk_Model_406 in11 rfl rfl rfl rfl (hM.k rfl) (by first | assumption | (simp [up2] <;> rfl) | rfl) ?_
          refine VW.iconst (pc' := 114) d_Model_join_113 rfl (by decide) ?_
          refine VW.icmp_lt (tgt := 129) (pc' := 117) d_Model_join_114 rfl rfl (fun c114 => ?_) (fun c114 => ?_)
          · refine VW.iconst (pc' := 130) d_Model_join_129 rfl (by decide) ?_
            refine VW.goto (pc' := 156) d_Model_join_130 rfl ?_
            refine VW.cV (ci := 11) (T := T11) (N := 94) (pc' := 159) d_Model_join_156 rfl mv_Model_fails lk_Model_254 rfl (hM.k rfl) rfl rfl rfl (Nat.le_refl _) (Nat.le_refl _) (sp_Model_fails hM) rfl rfl ?_
            refine VW.nrm ?_
            exact after _ _ _ (by unfold cd_Model_join; (repeat' split) <;> first | rfl | (exfalso; omega))
          · refine VW.aload_n (pc' := 118) d_Model_join_117 rfl rfl ?_
            refine VW.cV (ci := 11) (T := T11) (N := 94) (pc' := 121) d_Model_join_118 rfl mv_Model_isFull lk_Model_409 rfl (hM.k rfl) rfl rfl rfl (Nat.le_refl _) (Nat.le_refl _) (sp_Model_isFull hM) rfl rfl ?_
            refine VW.if_ne (tgt := 129) (pc' := 124) d_Model_join_121 rfl rfl (fun c121 => ?_) (fun c121 => ?_)
            · try have e121 := bIn c121
              refine VW.iconst (pc' := 130) d_Model_join_129 rfl (by decide) ?_
              refine VW.goto (pc' := 156) d_Model_join_130 rfl ?_
              refine VW.cV (ci := 11) (T := T11) (N := 94) (pc' := 159) d_Model_join_156 rfl mv_Model_fails lk_Model_254 rfl (hM.k rfl) rfl rfl rfl (Nat.le_refl _) (Nat.le_refl _) (sp_Model_fails hM) rfl rfl ?_
              refine VW.nrm ?_
              exact after _ _ _ (by unfold cd_Model_join; (repeat' split) <;> first | rfl | (exfalso; omega))
            · try have e121 := bIe c121
              refine VW.iload (pc' := 126) d_Model_join_124 rfl rfl ?_
              refine VW.if_eq (tgt := 133) (pc' := 129) d_Model_join_126 rfl rfl (fun _ => ?_) (fun c126 => absurd c126 (by decide))
              refine VW.iload (pc' := 135) d_Model_join_133 rfl rfl ?_
              refine VW.if_ne (tgt := 142) (pc' := 138) d_Model_join_135 rfl rfl (fun _ => ?_) (fun c135 => absurd c135 (by decide))
              refine VW.iload_n (pc' := 143) d_Model_join_142 rfl rfl ?_
              refine VW.iconst (pc' := 144) d_Model_join_143 rfl (by decide) ?_
              refine VW.iconst (pc' := 145) d_Model_join_144 rfl (by decide) ?_
              refine VW.cS (pc' := 148) d_Model_join_145 rfl ms_Model_isIn lk_Model_235 rfl rfl rfl (Nat.le_refl _) (Nat.le_refl _) (sp_Model_isIn) rfl rfl ?_
              refine VW.if_eq (tgt := 155) (pc' := 151) d_Model_join_148 rfl rfl (fun c148 => ?_) (fun c148 => ?_)
              · try have e148 := bIe c148
                refine VW.iconst (pc' := 156) d_Model_join_155 rfl (by decide) ?_
                refine VW.cV (ci := 11) (T := T11) (N := 94) (pc' := 159) d_Model_join_156 rfl mv_Model_fails lk_Model_254 rfl (hM.k rfl) rfl rfl rfl (Nat.le_refl _) (Nat.le_refl _) (sp_Model_fails hM) rfl rfl ?_
                refine VW.nrm ?_
                exact after _ _ _ (by unfold cd_Model_join; (repeat' split) <;> first | rfl | (exfalso; omega))
              · try have e148 := bIn c148
                refine VW.iconst (pc' := 152) d_Model_join_151 rfl (by decide) ?_
                refine VW.goto (pc' := 156) d_Model_join_152 rfl ?_
                refine VW.cV (ci := 11) (T := T11) (N := 94) (pc' := 159) d_Model_join_156 rfl mv_Model_fails lk_Model_254 rfl (hM.k rfl) rfl rfl rfl (Nat.le_refl _) (Nat.le_refl _) (sp_Model_fails hM) rfl rfl ?_
                refine VW.nrm ?_
                exact after _ _ _ (by unfold cd_Model_join; (repeat' split) <;> first | rfl | (exfalso; omega))
    · refine VW.iload_n (pc' := 61) d_Model_join_60 rfl rfl ?_
      refine VW.iconst (pc' := 62) d_Model_join_61 rfl (by decide) ?_
      refine VW.icmp_eq (tgt := 74) (pc' := 65) d_Model_join_62 rfl rfl (fun c62 => ?_) (fun c62 => ?_)
      · refine VW.iconst (pc' := 75) d_Model_join_74 rfl (by decide) ?_
        refine VW.istore (pc' := 77) d_Model_join_75 rfl rfl ?_
        refine VW.iload_n (pc' := 78) d_Model_join_77 rfl rfl ?_
        refine VW.iconst (pc' := 79) d_Model_join_78 rfl (by decide) ?_
        refine VW.iload (pc' := 81) d_Model_join_79 rfl rfl ?_
        refine VW.iconst (pc' := 82) d_Model_join_81 rfl (by decide) ?_
        refine VW.isub (pc' := 83) d_Model_join_82 rfl (by omega) ?_
        refine VW.cS (pc' := 86) d_Model_join_83 rfl ms_Model_isIn lk_Model_235 rfl rfl rfl (Nat.le_refl _) (Nat.le_refl _) (sp_Model_isIn) rfl rfl ?_
        refine VW.if_eq (tgt := 105) (pc' := 89) d_Model_join_86 rfl rfl (fun c86 => ?_) (fun c86 => ?_)
        · try have e86 := bIe c86
          refine VW.iconst (pc' := 106) d_Model_join_105 rfl (by decide) ?_
          refine VW.istore (pc' := 108) d_Model_join_106 rfl rfl ?_
          refine VW.aload_n (pc' := 109) d_Model_join_108 rfl rfl ?_
          refine VW.aload_n (pc' := 110) d_Model_join_109 rfl rfl ?_
          refine VW.gI (ci := 11) (T := T11) (N := 94) (k := 51) (k' := 51) (pc' := 113) d_Model_join_110 rfl lk_Model_406 in11 rfl rfl rfl rfl (hM.k rfl) (by first | assumption | (simp [up2] <;> rfl) | rfl) ?_
          refine VW.iconst (pc' := 114) d_Model_join_113 rfl (by decide) ?_
          refine VW.icmp_lt (tgt := 129) (pc' := 117) d_Model_join_114 rfl rfl (fun c114 => ?_) (fun c114 => ?_)
          · refine VW.iconst (pc' := 130) d_Model_join_129 rfl (by decide) ?_
            refine VW.goto (pc' := 156) d_Model_join_130 rfl ?_
            refine VW.cV (ci := 11) (T := T11) (N := 94) (pc' := 159) d_Model_join_156 rfl mv_Model_fails lk_Model_254 rfl (hM.k rfl) rfl rfl rfl (Nat.le_refl _) (Nat.le_refl _) (sp_Model_fails hM) rfl rfl ?_
            refine VW.nrm ?_
            exact after _ _ _ (by unfold cd_Model_join; (repeat' split) <;> first | rfl | (exfalso; omega))
          · refine VW.aload_n (pc' := 118) d_Model_join_117 rfl rfl ?_
            refine VW.cV (ci := 11) (T := T11) (N := 94) (pc' := 121) d_Model_join_118 rfl mv_Model_isFull lk_Model_409 rfl (hM.k rfl) rfl rfl rfl (Nat.le_refl _) (Nat.le_refl _) (sp_Model_isFull hM) rfl rfl ?_
            refine VW.if_ne (tgt := 129) (pc' := 124) d_Model_join_121 rfl rfl (fun c121 => ?_) (fun c121 => ?_)
            · try have e121 := bIn c121
              refine VW.iconst (pc' := 130) d_Model_join_129 rfl (by decide) ?_
              refine VW.goto (pc' := 156) d_Model_join_130 rfl ?_
              refine VW.cV (ci := 11) (T := T11) (N := 94) (pc' := 159) d_Model_join_156 rfl mv_Model_fails lk_Model_254 rfl (hM.k rfl) rfl rfl rfl (Nat.le_refl _) (Nat.le_refl _) (sp_Model_fails hM) rfl rfl ?_
              refine VW.nrm ?_
              exact after _ _ _ (by unfold cd_Model_join; (repeat' split) <;> first | rfl | (exfalso; omega))
            · try have e121 := bIe c121
              refine VW.iload (pc' := 126) d_Model_join_124 rfl rfl ?_
              refine VW.if_eq (tgt := 133) (pc' := 129) d_Model_join_126 rfl rfl (fun _ => ?_) (fun c126 => absurd c126 (by decide))
              refine VW.iload (pc' := 135) d_Model_join_133 rfl rfl ?_
              refine VW.if_ne (tgt := 142) (pc' := 138) d_Model_join_135 rfl rfl (fun c135 => absurd c135 (by decide)) (fun _ => ?_)
              refine VW.iconst (pc' := 139) d_Model_join_138 rfl (by decide) ?_
              refine VW.goto (pc' := 156) d_Model_join_139 rfl ?_
              refine VW.cV (ci := 11) (T := T11) (N := 94) (pc' := 159) d_Model_join_156 rfl mv_Model_fails lk_Model_254 rfl (hM.k rfl) rfl rfl rfl (Nat.le_refl _) (Nat.le_refl _) (sp_Model_fails hM) rfl rfl ?_
              refine VW.nrm ?_
              exact after _ _ _ (by unfold cd_Model_join; (repeat' split) <;> first | rfl | (exfalso; omega))
        · try have e86 := bIn c86
          refine VW.iload_n (pc' := 90) d_Model_join_89 rfl rfl ?_
          refine VW.iconst (pc' := 91) d_Model_join_90 rfl (by decide) ?_
          refine VW.iload (pc' := 93) d_Model_join_91 rfl rfl ?_
          refine VW.iconst (pc' := 94) d_Model_join_93 rfl (by decide) ?_
          refine VW.isub (pc' := 95) d_Model_join_94 rfl (by omega) ?_
          refine VW.cS (pc' := 98) d_Model_join_95 rfl ms_Model_isIn lk_Model_235 rfl rfl rfl (Nat.le_refl _) (Nat.le_refl _) (sp_Model_isIn) rfl rfl ?_
          refine VW.if_eq (tgt := 105) (pc' := 101) d_Model_join_98 rfl rfl (fun c98 => ?_) (fun c98 => ?_)
          · try have e98 := bIe c98
            refine VW.iconst (pc' := 106) d_Model_join_105 rfl (by decide) ?_
            refine VW.istore (pc' := 108) d_Model_join_106 rfl rfl ?_
            refine VW.aload_n (pc' := 109) d_Model_join_108 rfl rfl ?_
            refine VW.aload_n (pc' := 110) d_Model_join_109 rfl rfl ?_
            refine VW.gI (ci := 11) (T := T11) (N := 94) (k := 51) (k' := 51) (pc' := 113) d_Model_join_110 rfl lk_Model_406 in11 rfl rfl rfl rfl (hM.k rfl) (by first | assumption | (simp [up2] <;> rfl) | rfl) ?_
            refine VW.iconst (pc' := 114) d_Model_join_113 rfl (by decide) ?_
            refine VW.icmp_lt (tgt := 129) (pc' := 117) d_Model_join_114 rfl rfl (fun c114 => ?_) (fun c114 => ?_)
            · refine VW.iconst (pc' := 130) d_Model_join_129 rfl (by decide) ?_
              refine VW.goto (pc' := 156) d_Model_join_130 rfl ?_
              refine VW.cV (ci := 11) (T := T11) (N := 94) (pc' := 159) d_Model_join_156 rfl mv_Model_fails lk_Model_254 rfl (hM.k rfl) rfl rfl rfl (Nat.le_refl _) (Nat.le_refl _) (sp_Model_fails hM) rfl rfl ?_
              refine VW.nrm ?_
              exact after _ _ _ (by unfold cd_Model_join; (repeat' split) <;> first | rfl | (exfalso; omega))
            · refine VW.aload_n (pc' := 118) d_Model_join_117 rfl rfl ?_
              refine VW.cV (ci := 11) (T := T11) (N := 94) (pc' := 121) d_Model_join_118 rfl mv_Model_isFull lk_Model_409 rfl (hM.k rfl) rfl rfl rfl (Nat.le_refl _) (Nat.le_refl _) (sp_Model_isFull hM) rfl rfl ?_
              refine VW.if_ne (tgt := 129) (pc' := 124) d_Model_join_121 rfl rfl (fun c121 => ?_) (fun c121 => ?_)
              · try have e121 := bIn c121
                refine VW.iconst (pc' := 130) d_Model_join_129 rfl (by decide) ?_
                refine VW.goto (pc' := 156) d_Model_join_130 rfl ?_
                refine VW.cV (ci := 11) (T := T11) (N := 94) (pc' := 159) d_Model_join_156 rfl mv_Model_fails lk_Model_254 rfl (hM.k rfl) rfl rfl rfl (Nat.le_refl _) (Nat.le_refl _) (sp_Model_fails hM) rfl rfl ?_
                refine VW.nrm ?_
                exact after _ _ _ (by unfold cd_Model_join; (repeat' split) <;> first | rfl | (exfalso; omega))
              · try have e121 := bIe c121
                refine VW.iload (pc' := 126) d_Model_join_124 rfl rfl ?_
                refine VW.if_eq (tgt := 133) (pc' := 129) d_Model_join_126 rfl rfl (fun _ => ?_) (fun c126 => absurd c126 (by decide))
                refine VW.iload (pc' := 135) d_Model_join_133 rfl rfl ?_
                refine VW.if_ne (tgt := 142) (pc' := 138) d_Model_join_135 rfl rfl (fun c135 => absurd c135 (by decide)) (fun _ => ?_)
                refine VW.iconst (pc' := 139) d_Model_join_138 rfl (by decide) ?_
                refine VW.goto (pc' := 156) d_Model_join_139 rfl ?_
                refine VW.cV (ci := 11) (T := T11) (N := 94) (pc' := 159) d_Model_join_156 rfl mv_Model_fails lk_Model_254 rfl (hM.k rfl) rfl rfl rfl (Nat.le_refl _) (Nat.le_refl _) (sp_Model_fails hM) rfl rfl ?_
                refine VW.nrm ?_
                exact after _ _ _ (by unfold cd_Model_join; (repeat' split) <;> first | rfl | (exfalso; omega))
          · try have e98 := bIn c98
            refine VW.iconst (pc' := 102) d_Model_join_101 rfl (by decide) ?_
            refine VW.goto (pc' := 106) d_Model_join_102 rfl ?_
            refine VW.istore (pc' := 108) d_Model_join_106 rfl rfl ?_
            refine VW.aload_n (pc' := 109) d_Model_join_108 rfl rfl ?_
            refine VW.aload_n (pc' := 110) d_Model_join_109 rfl rfl ?_
            refine VW.gI (ci := 11) (T := T11) (N := 94) (k := 51) (k' := 51) (pc' := 113) d_Model_join_110 rfl lk_Model_406 in11 rfl rfl rfl rfl (hM.k rfl) (by first | assumption | (simp [up2] <;> rfl) | rfl) ?_
            refine VW.iconst (pc' := 114) d_Model_join_113 rfl (by decide) ?_
            refine VW.icmp_lt (tgt := 129) (pc' := 117) d_Model_join_114 rfl rfl (fun c114 => ?_) (fun c114 => ?_)
            · refine VW.iconst (pc' := 130) d_Model_join_129 rfl (by decide) ?_
              refine VW.goto (pc' := 156) d_Model_join_130 rfl ?_
              refine VW.cV (ci := 11) (T := T11) (N := 94) (pc' := 159) d_Model_join_156 rfl mv_Model_fails lk_Model_254 rfl (hM.k rfl) rfl rfl rfl (Nat.le_refl _) (Nat.le_refl _) (sp_Model_fails hM) rfl rfl ?_
              refine VW.nrm ?_
              exact after _ _ _ (by unfold cd_Model_join; (repeat' split) <;> first | rfl | (exfalso; omega))
            · refine VW.aload_n (pc' := 118) d_Model_join_117 rfl rfl ?_
              refine VW.cV (ci := 11) (T := T11) (N := 94) (pc' := 121) d_Model_join_118 rfl mv_Model_isFull lk_Model_409 rfl (hM.k rfl) rfl rfl rfl (Nat.le_refl _) (Nat.le_refl _) (sp_Model_isFull hM) rfl rfl ?_
              refine VW.if_ne (tgt := 129) (pc' := 124) d_Model_join_121 rfl rfl (fun c121 => ?_) (fun c121 => ?_)
              · try have e121 := bIn c121
                refine VW.iconst (pc' := 130) d_Model_join_129 rfl (by decide) ?_
                refine VW.goto (pc' := 156) d_Model_join_130 rfl ?_
                refine VW.cV (ci := 11) (T := T11) (N := 94) (pc' := 159) d_Model_join_156 rfl mv_Model_fails lk_Model_254 rfl (hM.k rfl) rfl rfl rfl (Nat.le_refl _) (Nat.le_refl _) (sp_Model_fails hM) rfl rfl ?_
                refine VW.nrm ?_
                exact after _ _ _ (by unfold cd_Model_join; (repeat' split) <;> first | rfl | (exfalso; omega))
              · try have e121 := bIe c121
                refine VW.iload (pc' := 126) d_Model_join_124 rfl rfl ?_
                refine VW.if_eq (tgt := 133) (pc' := 129) d_Model_join_126 rfl rfl (fun _ => ?_) (fun c126 => absurd c126 (by decide))
                refine VW.iload (pc' := 135) d_Model_join_133 rfl rfl ?_
                refine VW.if_ne (tgt := 142) (pc' := 138) d_Model_join_135 rfl rfl (fun _ => ?_) (fun c135 => absurd c135 (by decide))
                refine VW.iload_n (pc' := 143) d_Model_join_142 rfl rfl ?_
                refine VW.iconst (pc' := 144) d_Model_join_143 rfl (by decide) ?_
                refine VW.iconst (pc' := 145) d_Model_join_144 rfl (by decide) ?_
                refine VW.cS (pc' := 148) d_Model_join_145 rfl ms_Model_isIn lk_Model_235 rfl rfl rfl (Nat.le_refl _) (Nat.le_refl _) (sp_Model_isIn) rfl rfl ?_
                refine VW.if_eq (tgt := 155) (pc' := 151) d_Model_join_148 rfl rfl (fun c148 => ?_) (fun c148 => ?_)
                · try have e148 := bIe c148
                  refine VW.iconst (pc' := 156) d_Model_join_155 rfl (by decide) ?_
                  refine VW.cV (ci := 11) (T := T11) (N := 94) (pc' := 159) d_Model_join_156 rfl mv_Model_fails lk_Model_254 rfl (hM.k rfl) rfl rfl rfl (Nat.le_refl _) (Nat.le_refl _) (sp_Model_fails hM) rfl rfl ?_
                  refine VW.nrm ?_
                  exact after _ _ _ (by unfold cd_Model_join; (repeat' split) <;> first | rfl | (exfalso; omega))
                · try have e148 := bIn c148
                  refine VW.iconst (pc' := 152) d_Model_join_151 rfl (by decide) ?_
                  refine VW.goto (pc' := 156) d_Model_join_152 rfl ?_
                  refine VW.cV (ci := 11) (T := T11) (N := 94) (pc' := 159) d_Model_join_156 rfl mv_Model_fails lk_Model_254 rfl (hM.k rfl) rfl rfl rfl (Nat.le_refl _) (Nat.le_refl _) (sp_Model_fails hM) rfl rfl ?_
                  refine VW.nrm ?_
                  exact after _ _ _ (by unfold cd_Model_join; (repeat' split) <;> first | rfl | (exfalso; omega))
      · refine VW.iload_n (pc' := 66) d_Model_join_65 rfl rfl ?_
        refine VW.iconst (pc' := 67) d_Model_join_66 rfl (by decide) ?_
        refine VW.icmp_eq (tgt := 74) (pc' := 70) d_Model_join_67 rfl rfl (fun c67 => ?_) (fun c67 => ?_)
        · refine VW.iconst (pc' := 75) d_Model_join_74 rfl (by decide) ?_
          refine VW.istore (pc' := 77) d_Model_join_75 rfl rfl ?_
          refine VW.iload_n (pc' := 78) d_Model_join_77 rfl rfl ?_
          refine VW.iconst (pc' := 79) d_Model_join_78 rfl (by decide) ?_
          refine VW.iload (pc' := 81) d_Model_join_79 rfl rfl ?_
          refine VW.iconst (pc' := 82) d_Model_join_81 rfl (by decide) ?_
          refine VW.isub (pc' := 83) d_Model_join_82 rfl (by omega) ?_
          refine VW.cS (pc' := 86) d_Model_join_83 rfl ms_Model_isIn lk_Model_235 rfl rfl rfl (Nat.le_refl _) (Nat.le_refl _) (sp_Model_isIn) rfl rfl ?_
          refine VW.if_eq (tgt := 105) (pc' := 89) d_Model_join_86 rfl rfl (fun c86 => ?_) (fun c86 => ?_)
          · try have e86 := bIe c86
            refine VW.iconst (pc' := 106) d_Model_join_105 rfl (by decide) ?_
            refine VW.istore (pc' := 108) d_Model_join_106 rfl rfl ?_
            refine VW.aload_n (pc' := 109) d_Model_join_108 rfl rfl ?_
            refine VW.aload_n (pc' := 110) d_Model_join_109 rfl rfl ?_
            refine VW.gI (ci := 11) (T := T11) (N := 94) (k := 51) (k' := 51) (pc' := 113) d_Model_join_110 rfl lk_Model_406 in11 rfl rfl rfl rfl (hM.k rfl) (by first | assumption | (simp [up2] <;> rfl) | rfl) ?_
            refine VW.iconst (pc' := 114) d_Model_join_113 rfl (by decide) ?_
            refine VW.icmp_lt (tgt := 129) (pc' := 117) d_Model_join_114 rfl rfl (fun c114 => ?_) (fun c114 => ?_)
            · refine VW.iconst (pc' := 130) d_Model_join_129 rfl (by decide) ?_
              refine VW.goto (pc' := 156) d_Model_join_130 rfl ?_
              refine VW.cV (ci := 11) (T := T11) (N := 94) (pc' := 159) d_Model_join_156 rfl mv_Model_fails lk_Model_254 rfl (hM.k rfl) rfl rfl rfl (Nat.le_refl _) (Nat.le_refl _) (sp_Model_fails hM) rfl rfl ?_
              refine VW.nrm ?_
              exact after _ _ _ (by unfold cd_Model_join; (repeat' split) <;> first | rfl | (exfalso; omega))
            · refine VW.aload_n (pc' := 118) d_Model_join_117 rfl rfl ?_
              refine VW.cV (ci := 11) (T := T11) (N := 94) (pc' := 121) d_Model_join_118 rfl mv_Model_isFull lk_Model_409 rfl (hM.k rfl) rfl rfl rfl (Nat.le_refl _) (Nat.le_refl _) (sp_Model_isFull hM) rfl rfl ?_
              refine VW.if_ne (tgt := 129) (pc' := 124) d_Model_join_121 rfl rfl (fun c121 => ?_) (fun c121 => ?_)
              · try have e121 := bIn c121
                refine VW.iconst (pc' := 130) d_Model_join_129 rfl (by decide) ?_
                refine VW.goto (pc' := 156) d_Model_join_130 rfl ?_
                refine VW.cV (ci := 11) (T := T11) (N := 94) (pc' := 159) d_Model_join_156 rfl mv_Model_fails lk_Model_254 rfl (hM.k rfl) rfl rfl rfl (Nat.le_refl _) (Nat.le_refl _) (sp_Model_fails hM) rfl rfl ?_
                refine VW.nrm ?_
                exact after _ _ _ (by unfold cd_Model_join; (repeat' split) <;> first | rfl | (exfalso; omega))
              · try have e121 := bIe c121
                refine VW.iload (pc' := 126) d_Model_join_124 rfl rfl ?_
                refine VW.if_eq (tgt := 133) (pc' := 129) d_Model_join_126 rfl rfl (fun _ => ?_) (fun c126 => absurd c126 (by decide))
                refine VW.iload (pc' := 135) d_Model_join_133 rfl rfl ?_
                refine VW.if_ne (tgt := 142) (pc' := 138) d_Model_join_135 rfl rfl (fun c135 => absurd c135 (by decide)) (fun _ => ?_)
                refine VW.iconst (pc' := 139) d_Model_join_138 rfl (by decide) ?_
                refine VW.goto (pc' := 156) d_Model_join_139 rfl ?_
                refine VW.cV (ci := 11) (T := T11) (N := 94) (pc' := 159) d_Model_join_156 rfl mv_Model_fails lk_Model_254 rfl (hM.k rfl) rfl rfl rfl (Nat.le_refl _) (Nat.le_refl _) (sp_Model_fails hM) rfl rfl ?_
                refine VW.nrm ?_
                exact after _ _ _ (by unfold cd_Model_join; (repeat' split) <;> first | rfl | (exfalso; omega))
          · try have e86 := bIn c86
            refine VW.iload_n (pc' := 90) d_Model_join_89 rfl rfl ?_
            refine VW.iconst (pc' := 91) d_Model_join_90 rfl (by decide) ?_
            refine VW.iload (pc' := 93) d_Model_join_91 rfl rfl ?_
            refine VW.iconst (pc' := 94) d_Model_join_93 rfl (by decide) ?_
            refine VW.isub (pc' := 95) d_Model_join_94 rfl (by omega) ?_
            refine VW.cS (pc' := 98) d_Model_join_95 rfl ms_Model_isIn lk_Model_235 rfl rfl rfl (Nat.le_refl _) (Nat.le_refl _) (sp_Model_isIn) rfl rfl ?_
            refine VW.if_eq (tgt := 105) (pc' := 101) d_Model_join_98 rfl rfl (fun c98 => ?_) (fun c98 => ?_)
            · try have e98 := bIe c98
              refine VW.iconst (pc' := 106) d_Model_join_105 rfl (by decide) ?_
              refine VW.istore (pc' := 108) d_Model_join_106 rfl rfl ?_
              refine VW.aload_n (pc' := 109) d_Model_join_108 rfl rfl ?_
              refine VW.aload_n (pc' := 110) d_Model_join_109 rfl rfl ?_
              refine VW.gI (ci := 11) (T := T11) (N := 94) (k := 51) (k' := 51) (pc' := 113) d_Model_join_110 rfl lk_Model_406 in11 rfl rfl rfl rfl (hM.k rfl) (by first | assumption | (simp [up2] <;> rfl) | rfl) ?_
              refine VW.iconst (pc' := 114) d_Model_join_113 rfl (by decide) ?_
              refine VW.icmp_lt (tgt := 129) (pc' := 117) d_Model_join_114 rfl rfl (fun c114 => ?_) (fun c114 => ?_)
              · refine VW.iconst (pc' := 130) d_Model_join_129 rfl (by decide) ?_
                refine VW.goto (pc' := 156) d_Model_join_130 rfl ?_
                refine VW.cV (ci := 11) (T := T11) (N := 94) (pc' := 159) d_Model_join_156 rfl mv_Model_fails lk_Model_254 rfl (hM.k rfl) rfl rfl rfl (Nat.le_refl _) (Nat.le_refl _) (sp_Model_fails hM) rfl rfl ?_
                refine VW.nrm ?_
                exact after _ _ _ (by unfold cd_Model_join; (repeat' split) <;> first | rfl | (exfalso; omega))
              · refine VW.aload_n (pc' := 118) d_Model_join_117 rfl rfl ?_
                refine VW.cV (ci := 11) (T := T11) (N := 94) (pc' := 121) d_Model_join_118 rfl mv_Model_isFull lk_Model_409 rfl (hM.k rfl) rfl rfl rfl (Nat.le_refl _) (Nat.le_refl _) (sp_Model_isFull hM) rfl rfl ?_
                refine VW.if_ne (tgt := 129) (pc' := 124) d_Model_join_121 rfl rfl (fun c121 => ?_) (fun c121 => ?_)
                · try have e121 := bIn c121
                  refine VW.iconst (pc' := 130) d_Model_join_129 rfl (by decide) ?_
                  refine VW.goto (pc' := 156) d_Model_join_130 rfl ?_
                  refine VW.cV (ci := 11) (T := T11) (N := 94) (pc' := 159) d_Model_join_156 rfl mv_Model_fails lk_Model_254 rfl (hM.k rfl) rfl rfl rfl (Nat.le_refl _) (Nat.le_refl _) (sp_Model_fails hM) rfl rfl ?_
                  refine VW.nrm ?_
                  exact after _ _ _ (by unfold cd_Model_join; (repeat' split) <;> first | rfl | (exfalso; omega))
                · try have e121 := bIe c121
                  refine VW.iload (pc' := 126) d_Model_join_124 rfl rfl ?_
                  refine VW.if_eq (tgt := 133) (pc' := 129) d_Model_join_126 rfl rfl (fun _ => ?_) (fun c126 => absurd c126 (by decide))
                  refine VW.iload (pc' := 135) d_Model_join_133 rfl rfl ?_
                  refine VW.if_ne (tgt := 142) (pc' := 138) d_Model_join_135 rfl rfl (fun c135 => absurd c135 (by decide)) (fun _ => ?_)
                  refine VW.iconst (pc' := 139) d_Model_join_138 rfl (by decide) ?_
                  refine VW.goto (pc' := 156) d_Model_join_139 rfl ?_
                  refine VW.cV (ci := 11) (T := T11) (N := 94) (pc' := 159) d_Model_join_156 rfl mv_Model_fails lk_Model_254 rfl (hM.k rfl) rfl rfl rfl (Nat.le_refl _) (Nat.le_refl _) (sp_Model_fails hM) rfl rfl ?_
                  refine VW.nrm ?_
                  exact after _ _ _ (by unfold cd_Model_join; (repeat' split) <;> first | rfl | (exfalso; omega))
            · try have e98 := bIn c98
              refine VW.iconst (pc' := 102) d_Model_join_101 rfl (by decide) ?_
              refine VW.goto (pc' := 106) d_Model_join_102 rfl ?_
              refine VW.istore (pc' := 108) d_Model_join_106 rfl rfl ?_
              refine VW.aload_n (pc' := 109) d_Model_join_108 rfl rfl ?_
              refine VW.aload_n (pc' := 110) d_Model_join_109 rfl rfl ?_
              refine VW.gI (ci := 11) (T := T11) (N := 94) (k := 51) (k' := 51) (pc' := 113) d_Model_join_110 rfl lk_Model_406 in11 rfl rfl rfl rfl (hM.k rfl) (by first | assumption | (simp [up2] <;> rfl) | rfl) ?_
              refine VW.iconst (pc' := 114) d_Model_join_113 rfl (by decide) ?_
              refine VW.icmp_lt (tgt := 129) (pc' := 117) d_Model_join_114 rfl rfl (fun c114 => ?_) (fun c114 => ?_)
              · refine VW.iconst (pc' := 130) d_Model_join_129 rfl (by decide) ?_
                refine VW.goto (pc' := 156) d_Model_join_130 rfl ?_
                refine VW.cV (ci := 11) (T := T11) (N := 94) (pc' := 159) d_Model_join_156 rfl mv_Model_fails lk_Model_254 rfl (hM.k rfl) rfl rfl rfl (Nat.le_refl _) (Nat.le_refl _) (sp_Model_fails hM) rfl rfl ?_
                refine VW.nrm ?_
                exact after _ _ _ (by unfold cd_Model_join; (repeat' split) <;> first | rfl | (exfalso; omega))
              · refine VW.aload_n (pc' := 118) d_Model_join_117 rfl rfl ?_
                refine VW.cV (ci := 11) (T := T11) (N := 94) (pc' := 121) d_Model_join_118 rfl mv_Model_isFull lk_Model_409 rfl (hM.k rfl) rfl rfl rfl (Nat.le_refl _) (Nat.le_refl _) (sp_Model_isFull hM) rfl rfl ?_
                refine VW.if_ne (tgt := 129) (pc' := 124) d_Model_join_121 rfl rfl (fun c121 => ?_) (fun c121 => ?_)
                · try have e121 := bIn c121
                  refine VW.iconst (pc' := 130) d_Model_join_129 rfl (by decide) ?_
                  refine VW.goto (pc' := 156) d_Model_join_130 rfl ?_
                  refine VW.cV (ci := 11) (T := T11) (N := 94) (pc' := 159) d_Model_join_156 rfl mv_Model_fails lk_Model_254 rfl (hM.k rfl) rfl rfl rfl (Nat.le_refl _) (Nat.le_refl _) (sp_Model_fails hM) rfl rfl ?_
                  refine VW.nrm ?_
                  exact after _ _ _ (by unfold cd_Model_join; (repeat' split) <;> first | rfl | (exfalso; omega))
                · try have e121 := bIe c121
                  refine VW.iload (pc' := 126) d_Model_join_124 rfl rfl ?_
                  refine VW.if_eq (tgt := 133) (pc' := 129) d_Model_join_126 rfl rfl (fun _ => ?_) (fun c126 => absurd c126 (by decide))
                  refine VW.iload (pc' := 135) d_Model_join_133 rfl rfl ?_
                  refine VW.if_ne (tgt := 142) (pc' := 138) d_Model_join_135 rfl rfl (fun _ => ?_) (fun c135 => absurd c135 (by decide))
                  refine VW.iload_n (pc' := 143) d_Model_join_142 rfl rfl ?_
                  refine VW.iconst (pc' := 144) d_Model_join_143 rfl (by decide) ?_
                  refine VW.iconst (pc' := 145) d_Model_join_144 rfl (by decide) ?_
                  refine VW.cS (pc' := 148) d_Model_join_145 rfl ms_Model_isIn lk_Model_235 rfl rfl rfl (Nat.le_refl _) (Nat.le_refl _) (sp_Model_isIn) rfl rfl ?_
                  refine VW.if_eq (tgt := 155) (pc' := 151) d_Model_join_148 rfl rfl (fun c148 => ?_) (fun c148 => ?_)
                  · try have e148 := bIe c148
                    refine VW.iconst (pc' := 156) d_Model_join_155 rfl (by decide) ?_
                    refine VW.cV (ci := 11) (T := T11) (N := 94) (pc' := 159) d_Model_join_156 rfl mv_Model_fails lk_Model_254 rfl (hM.k rfl) rfl rfl rfl (Nat.le_refl _) (Nat.le_refl _) (sp_Model_fails hM) rfl rfl ?_
                    refine VW.nrm ?_
                    exact after _ _ _ (by unfold cd_Model_join; (repeat' split) <;> first | rfl | (exfalso; omega))
                  · try have e148 := bIn c148
                    refine VW.iconst (pc' := 152) d_Model_join_151 rfl (by decide) ?_
                    refine VW.goto (pc' := 156) d_Model_join_152 rfl ?_
                    refine VW.cV (ci := 11) (T := T11) (N := 94) (pc' := 159) d_Model_join_156 rfl mv_Model_fails lk_Model_254 rfl (hM.k rfl) rfl rfl rfl (Nat.le_refl _) (Nat.le_refl _) (sp_Model_fails hM) rfl rfl ?_
                    refine VW.nrm ?_
                    exact after _ _ _ (by unfold cd_Model_join; (repeat' split) <;> first | rfl | (exfalso; omega))
        · refine VW.iconst (pc' := 71) d_Model_join_70 rfl (by decide) ?_
          refine VW.goto (pc' := 75) d_Model_join_71 rfl ?_
          refine VW.istore (pc' := 77) d_Model_join_75 rfl rfl ?_
          refine VW.iload_n (pc' := 78) d_Model_join_77 rfl rfl ?_
          refine VW.iconst (pc' := 79) d_Model_join_78 rfl (by decide) ?_
          refine VW.iload (pc' := 81) d_Model_join_79 rfl rfl ?_
          refine VW.iconst (pc' := 82) d_Model_join_81 rfl (by decide) ?_
          refine VW.isub (pc' := 83) d_Model_join_82 rfl (by omega) ?_
          refine VW.cS (pc' := 86) d_Model_join_83 rfl ms_Model_isIn lk_Model_235 rfl rfl rfl (Nat.le_refl _) (Nat.le_refl _) (sp_Model_isIn) rfl rfl ?_
          refine VW.if_eq (tgt := 105) (pc' := 89) d_Model_join_86 rfl rfl (fun c86 => ?_) (fun c86 => ?_)
          · try have e86 := bIe c86
            refine VW.iconst (pc' := 106) d_Model_join_105 rfl (by decide) ?_
            refine VW.istore (pc' := 108) d_Model_join_106 rfl rfl ?_
            refine VW.aload_n (pc' := 109) d_Model_join_108 rfl rfl ?_
            refine VW.aload_n (pc' := 110) d_Model_join_109 rfl rfl ?_
            refine VW.gI (ci := 11) (T := T11) (N := 94) (k := 51) (k' := 51) (pc' := 113) d_Model_join_110 rfl lk_Model_406 in11 rfl rfl rfl rfl (hM.k rfl) (by first | assumption | (simp [up2] <;> rfl) | rfl) ?_
            refine VW.iconst (pc' := 114) d_Model_join_113 rfl (by decide) ?_
            refine VW.icmp_lt (tgt := 129) (pc' := 117) d_Model_join_114 rfl rfl (fun c114 => ?_) (fun c114 => ?_)
            · refine VW.iconst (pc' := 130) d_Model_join_129 rfl (by decide) ?_
              refine VW.goto (pc' := 156) d_Model_join_130 rfl ?_
              refine VW.cV (ci := 11) (T := T11) (N := 94) (pc' := 159) d_Model_join_156 rfl mv_Model_fails lk_Model_254 rfl (hM.k rfl) rfl rfl rfl (Nat.le_refl _) (Nat.le_refl _) (sp_Model_fails hM) rfl rfl ?_
              refine VW.nrm ?_
              exact after _ _ _ (by unfold cd_Model_join; (repeat' split) <;> first | rfl | (exfalso; omega))
            · refine VW.aload_n (pc' := 118) d_Model_join_117 rfl rfl ?_
              refine VW.cV (ci := 11) (T := T11) (N := 94) (pc' := 121) d_Model_join_118 rfl mv_Model_isFull lk_Model_409 rfl (hM.k rfl) rfl rfl rfl (Nat.le_refl _) (Nat.le_refl _) (sp_Model_isFull hM) rfl rfl ?_
              refine VW.if_ne (tgt := 129) (pc' := 124) d_Model_join_121 rfl rfl (fun c121 => ?_) (fun c121 => ?_)
              · try have e121 := bIn c121
                refine VW.iconst (pc' := 130) d_Model_join_129 rfl (by decide) ?_
                refine VW.goto (pc' := 156) d_Model_join_130 rfl ?_
                refine VW.cV (ci := 11) (T := T11) (N := 94) (pc' := 159) d_Model_join_156 rfl mv_Model_fails lk_Model_254 rfl (hM.k rfl) rfl rfl rfl (Nat.le_refl _) (Nat.le_refl _) (sp_Model_fails hM) rfl rfl ?_
                refine VW.nrm ?_
                exact after _ _ _ (by unfold cd_Model_join; (repeat' split) <;> first | rfl | (exfalso; omega))
              · try have e121 := bIe c121
                refine VW.iload (pc' := 126) d_Model_join_124 rfl rfl ?_
                refine VW.if_eq (tgt := 133) (pc' := 129) d_Model_join_126 rfl rfl (fun c126 => absurd c126 (by decide)) (fun _ => ?_)
                refine VW.iconst (pc' := 130) d_Model_join_129 rfl (by decide) ?_
                refine VW.goto (pc' := 156) d_Model_join_130 rfl ?_
                refine VW.cV (ci := 11) (T := T11) (N := 94) (pc' := 159) d_Model_join_156 rfl mv_Model_fails lk_Model_254 rfl (hM.k rfl) rfl rfl rfl (Nat.le_refl _) (Nat.le_refl _) (sp_Model_fails hM) rfl rfl ?_
                refine VW.nrm ?_
                exact after _ _ _ (by unfold cd_Model_join; (repeat' split) <;> first | rfl | (exfalso; omega))
          · try have e86 := bIn c86
            refine VW.iload_n (pc' := 90) d_Model_join_89 rfl rfl ?_
            refine VW.iconst (pc' := 91) d_Model_join_90 rfl (by decide) ?_
            refine VW.iload (pc' := 93) d_Model_join_91 rfl rfl ?_
            refine VW.iconst (pc' := 94) d_Model_join_93 rfl (by decide) ?_
            refine VW.isub (pc' := 95) d_Model_join_94 rfl (by omega) ?_
            refine VW.cS (pc' := 98) d_Model_join_95 rfl ms_Model_isIn lk_Model_235 rfl rfl rfl (Nat.le_refl _) (Nat.le_refl _) (sp_Model_isIn) rfl rfl ?_
            refine VW.if_eq (tgt := 105) (pc' := 101) d_Model_join_98 rfl rfl (fun c98 => ?_) (fun c98 => ?_)
            · try have e98 := bIe c98
              refine VW.iconst (pc' := 106) d_Model_join_105 rfl (by decide) ?_
              refine VW.istore (pc' := 108) d_Model_join_106 rfl rfl ?_
              refine VW.aload_n (pc' := 109) d_Model_join_108 rfl rfl ?_
              refine VW.aload_n (pc' := 110) d_Model_join_109 rfl rfl ?_
              refine VW.gI (ci := 11) (T := T11) (N := 94) (k := 51) (k' := 51) (pc' := 113) d_Model_join_110 rfl lk_Model_406 in11 rfl rfl rfl rfl (hM.k rfl) (by first | assumption | (simp [up2] <;> rfl) | rfl) ?_
              refine VW.iconst (pc' := 114) d_Model_join_113 rfl (by decide) ?_
              refine VW.icmp_lt (tgt := 129) (pc' := 117) d_Model_join_114 rfl rfl (fun c114 => ?_) (fun c114 => ?_)
              · refine VW.iconst (pc' := 130) d_Model_join_129 rfl (by decide) ?_
                refine VW.goto (pc' := 156) d_Model_join_130 rfl ?_
                refine VW.cV (ci := 11) (T := T11) (N := 94) (pc' := 159) d_Model_join_156 rfl mv_Model_fails lk_Model_254 rfl (hM.k rfl) rfl rfl rfl (Nat.le_refl _) (Nat.le_refl _) (sp_Model_fails hM) rfl rfl ?_
                refine VW.nrm ?_
                exact after _ _ _ (by unfold cd_Model_join; (repeat' split) <;> first | rfl | (exfalso; omega))
              · refine VW.aload_n (pc' := 118) d_Model_join_117 rfl rfl ?_
                refine VW.cV (ci := 11) (T := T11) (N := 94) (pc' := 121) d_Model_join_118 rfl mv_Model_isFull lk_Model_409 rfl (hM.k rfl) rfl rfl rfl (Nat.le_refl _) (Nat.le_refl _) (sp_Model_isFull hM) rfl rfl ?_
                refine VW.if_ne (tgt := 129) (pc' := 124) d_Model_join_121 rfl rfl (fun c121 => ?_) (fun c121 => ?_)
                · try have e121 := bIn c121
                  refine VW.iconst (pc' := 130) d_Model_join_129 rfl (by decide) ?_
                  refine VW.goto (pc' := 156) d_Model_join_130 rfl ?_
                  refine VW.cV (ci := 11) (T := T11) (N := 94) (pc' := 159) d_Model_join_156 rfl mv_Model_fails lk_Model_254 rfl (hM.k rfl) rfl rfl rfl (Nat.le_refl _) (Nat.le_refl _) (sp_Model_fails hM) rfl rfl ?_
                  refine VW.nrm ?_
                  exact after _ _ _ (by unfold cd_Model_join; (repeat' split) <;> first | rfl | (exfalso; omega))
                · try have e121 := bIe c121
                  refine VW.iload (pc' := 126) d_Model_join_124 rfl rfl ?_
                  refine VW.if_eq (tgt := 133) (pc' := 129) d_Model_join_126 rfl rfl (fun c126 => absurd c126 (by decide)) (fun _ => ?_)
                  refine VW.iconst (pc' := 130) d_Model_join_129 rfl (by decide) ?_
                  refine VW.goto (pc' := 156) d_Model_join_130 rfl ?_
                  refine VW.cV (ci := 11) (T := T11) (N := 94) (pc' := 159) d_Model_join_156 rfl mv_Model_fails lk_Model_254 rfl (hM.k rfl) rfl rfl rfl (Nat.le_refl _) (Nat.le_refl _) (sp_Model_fails hM) rfl rfl ?_
                  refine VW.nrm ?_
                  exact after _ _ _ (by unfold cd_Model_join; (repeat' split) <;> first | rfl | (exfalso; omega))
            · try have e98 := bIn c98
              refine VW.iconst (pc' := 102) d_Model_join_101 rfl (by decide) ?_
              refine VW.goto (pc' := 106) d_Model_join_102 rfl ?_
              refine VW.istore (pc' := 108) d_Model_join_106 rfl rfl ?_
              refine VW.aload_n (pc' := 109) d_Model_join_108 rfl rfl ?_
              refine VW.aload_n (pc' := 110) d_Model_join_109 rfl rfl ?_
              refine VW.gI (ci := 11) (T := T11) (N := 94) (k := 51) (k' := 51) (pc' := 113) d_Model_join_110 rfl lk_Model_406 in11 rfl rfl rfl rfl (hM.k rfl) (by first | assumption | (simp [up2] <;> rfl) | rfl) ?_
              refine VW.iconst (pc' := 114) d_Model_join_113 rfl (by decide) ?_
              refine VW.icmp_lt (tgt := 129) (pc' := 117) d_Model_join_114 rfl rfl (fun c114 => ?_) (fun c114 => ?_)
              · refine VW.iconst (pc' := 130) d_Model_join_129 rfl (by decide) ?_
                refine VW.goto (pc' := 156) d_Model_join_130 rfl ?_
                refine VW.cV (ci := 11) (T := T11) (N := 94) (pc' := 159) d_Model_join_156 rfl mv_Model_fails lk_Model_254 rfl (hM.k rfl) rfl rfl rfl (Nat.le_refl _) (Nat.le_refl _) (sp_Model_fails hM) rfl rfl ?_
                refine VW.nrm ?_
                exact after _ _ _ (by unfold cd_Model_join; (repeat' split) <;> first | rfl | (exfalso; omega))
              · refine VW.aload_n (pc' := 118) d_Model_join_117 rfl rfl ?_
                refine VW.cV (ci := 11) (T := T11) (N := 94) (pc' := 121) d_Model_join_118 rfl mv_Model_isFull lk_Model_409 rfl (hM.k rfl) rfl rfl rfl (Nat.le_refl _) (Nat.le_refl _) (sp_Model_isFull hM) rfl rfl ?_
                refine VW.if_ne (tgt := 129) (pc' := 124) d_Model_join_121 rfl rfl (fun c121 => ?_) (fun c121 => ?_)
                · try have e121 := bIn c121
                  refine VW.iconst (pc' := 130) d_Model_join_129 rfl (by decide) ?_
                  refine VW.goto (pc' := 156) d_Model_join_130 rfl ?_
                  refine VW.cV (ci := 11) (T := T11) (N := 94) (pc' := 159) d_Model_join_156 rfl mv_Model_fails lk_Model_254 rfl (hM.k rfl) rfl rfl rfl (Nat.le_refl _) (Nat.le_refl _) (sp_Model_fails hM) rfl rfl ?_
                  refine VW.nrm ?_
                  exact after _ _ _ (by unfold cd_Model_join; (repeat' split) <;> first | rfl | (exfalso; omega))
                · try have e121 := bIe c121
                  refine VW.iload (pc' := 126) d_Model_join_124 rfl rfl ?_
                  refine VW.if_eq (tgt := 133) (pc' := 129) d_Model_join_126 rfl rfl (fun c126 => absurd c126 (by decide)) (fun _ => ?_)
                  refine VW.iconst (pc' := 130) d_Model_join_129 rfl (by decide) ?_
                  refine VW.goto (pc' := 156) d_Model_join_130 rfl ?_
                  refine VW.cV (ci := 11) (T := T11) (N := 94) (pc' := 159) d_Model_join_156 rfl mv_Model_fails lk_Model_254 rfl (hM.k rfl) rfl rfl rfl (Nat.le_refl _) (Nat.le_refl _) (sp_Model_fails hM) rfl rfl ?_
                  refine VW.nrm ?_
                  exact after _ _ _ (by unfold cd_Model_join; (repeat' split) <;> first | rfl | (exfalso; omega))
  have mid1 : ∀ p : Int, p = mOne I → VW m_Model_join false (rmv 1 25) (ex K P J (r_Model_join  I w a b).1 (.inl (some (vI (r_Model_join  I w a b).2)))) K P J I 0 0 25 [(0, vR (some 100)), (1, vI w), (2, vI a), (3, vI b), (4, vI (p))] [] := by
    intro p hp
    subst hp
    refine VW.aload_n (pc' := 26) d_Model_join_25 rfl rfl ?_
    refine VW.gI (ci := 11) (T := T11) (N := 94) (k := 51) (k' := 51) (pc' := 29) d_Model_join_26 rfl lk_Model_406 in11 rfl rfl rfl rfl (hM.k rfl) (by first | assumption | (simp [up2] <;> rfl) | rfl) ?_
    refine VW.iconst (pc' := 30) d_Model_join_29 rfl (by decide) ?_
    refine VW.icmp_le (tgt := 47) (pc' := 33) d_Model_join_30 rfl rfl (fun c30 => ?_) (fun c30 => ?_)
    · refine VW.iconst (pc' := 48) d_Model_join_47 rfl (by decide) ?_
      refine VW.istore (pc' := 50) d_Model_join_48 rfl rfl ?_
      refine VW.nrm ?_
      first | exact mid2 _ (mTwo_1 (by omega)) | exact mid2 _ (mTwo_0 (by omega))
    · refine VW.aload_n (pc' := 34) d_Model_join_33 rfl rfl ?_
      refine VW.gP (ci := 11) (T := T11) (N := 94) (k := 54) (k' := 54) (pc' := 37) d_Model_join_34 rfl lk_Model_141 in11 rfl rfl rfl rfl (hM.k rfl) (hM.p (r := some 254) 54 rfl rfl) ?_
      refine VW.aload_n (pc' := 38) d_Model_join_37 rfl rfl ?_
      refine VW.gI (ci := 11) (T := T11) (N := 94) (k := 51) (k' := 51) (pc' := 41) d_Model_join_38 rfl lk_Model_406 in11 rfl rfl rfl rfl (hM.k rfl) (by first | assumption | (simp [up2] <;> rfl) | rfl) ?_
      refine VW.iconst (pc' := 42) d_Model_join_41 rfl (by decide) ?_
      refine VW.isub (pc' := 43) d_Model_join_42 rfl (by omega) ?_
      refine VW.ild (pc' := 44) d_Model_join_43 rfl (hM.k rfl) (by omega) (by omega) (by first | assumption | (simp [up2] <;> rfl) | rfl) ?_
      refine VW.goto (pc' := 48) d_Model_join_44 rfl ?_
      refine VW.istore (pc' := 50) d_Model_join_48 rfl rfl ?_
      refine VW.nrm ?_
      first | exact mid2 _ (mTwo_1 (by omega)) | exact mid2 _ (mTwo_0 (by omega))
  refine VW.aload_n (pc' := 1) d_Model_join_0 rfl rfl ?_
  refine VW.gI (ci := 11) (T := T11) (N := 94) (k := 51) (k' := 51) (pc' := 4) d_Model_join_1 rfl lk_Model_406 in11 rfl rfl rfl rfl (hM.k rfl) (by first | assumption | (simp [up2] <;> rfl) | rfl) ?_
  refine VW.iconst (pc' := 5) d_Model_join_4 rfl (by decide) ?_
  refine VW.icmp_le (tgt := 22) (pc' := 8) d_Model_join_5 rfl rfl (fun c5 => ?_) (fun c5 => ?_)
  · refine VW.iconst (pc' := 23) d_Model_join_22 rfl (by decide) ?_
    refine VW.istore (pc' := 25) d_Model_join_23 rfl rfl ?_
    refine VW.nrm ?_
    first | exact mid1 _ (mOne_1 (by omega)) | exact mid1 _ (mOne_0 (by omega))
  · refine VW.aload_n (pc' := 9) d_Model_join_8 rfl rfl ?_
    refine VW.gP (ci := 11) (T := T11) (N := 94) (k := 54) (k' := 54) (pc' := 12) d_Model_join_9 rfl lk_Model_141 in11 rfl rfl rfl rfl (hM.k rfl) (hM.p (r := some 254) 54 rfl rfl) ?_
    refine VW.aload_n (pc' := 13) d_Model_join_12 rfl rfl ?_
    refine VW.gI (ci := 11) (T := T11) (N := 94) (k := 51) (k' := 51) (pc' := 16) d_Model_join_13 rfl lk_Model_406 in11 rfl rfl rfl rfl (hM.k rfl) (by first | assumption | (simp [up2] <;> rfl) | rfl) ?_
    refine VW.iconst (pc' := 17) d_Model_join_16 rfl (by decide) ?_
    refine VW.isub (pc' := 18) d_Model_join_17 rfl (by omega) ?_
    refine VW.ild (pc' := 19) d_Model_join_18 rfl (hM.k rfl) (by omega) (by omega) (by first | assumption | (simp [up2] <;> rfl) | rfl) ?_
    refine VW.goto (pc' := 23) d_Model_join_19 rfl ?_
    refine VW.istore (pc' := 25) d_Model_join_23 rfl rfl ?_
    refine VW.nrm ?_
    first | exact mid1 _ (mOne_1 (by omega)) | exact mid1 _ (mOne_0 (by omega))
theorem sp_Model_base {q : Int} (h : -1 ≤ q ∧ q ≤ 20) : Sp m_Model_base false (rmv 0 0) (ex K P J I (.inl (some (vI (12 * (q + 1)))))) K P J I [vI q] := by
  refine Sp.ofV (by decide) (Or.inr rfl) rfl ?_
  refine VW.bipush (pc' := 2) d_Model_base_0 rfl (by decide) ?_
  refine VW.iload_n (pc' := 3) d_Model_base_2 rfl rfl ?_
  refine VW.iconst (pc' := 4) d_Model_base_3 rfl (by decide) ?_
  refine VW.iadd (pc' := 5) d_Model_base_4 rfl (by omega) ?_
  refine VW.imul (pc' := 6) d_Model_base_5 rfl (by omega) ?_
  exact VW.iret d_Model_base_6 rfl rfl (Nat.zero_le _) (Nat.zero_le _) ex_rf
/-- the operators that are there go to where a query's lie: the first n of them -/
def mQc (S : IT) (B n : Int) : IT := fun o q => if (256 ≤ o ∧ o ≤ 260) ∧ B ≤ q ∧ q < B + n then S o (q - B) else S o q
theorem mQc_0 {S : IT} {B : Int} : mQc S B 0 = S := by
  funext o q
  exact if_neg (by omega)
theorem mQc_o {S : IT} {B n q : Int} {o : Nat} (h : o < 256 ∨ 260 < o) : mQc S B n o q = S o q := if_neg (by omega)
theorem mQc_low {S : IT} {B n q : Int} {o : Nat} (h : q < B) : mQc S B n o q = S o q := if_neg (by omega)
theorem mQc_step {S : IT} {B n : Int} (h : 0 ≤ n) : up2 (up2 (up2 (up2 (up2 (mQc S B n) 256 (B + n) (S 256 n)) 257 (B + n) (S 257 n)) 258 (B + n) (S 258 n)) 259 (B + n) (S 259 n)) 260 (B + n) (S 260 n) = mQc S B (n + 1) := by
  funext o q
  by_cases hq : q = B + n
  · subst hq
    have e : B + n - B = n := by omega
    by_cases h0 : o = 256
    · subst h0; simp [up2, mQc, e]; omega
    · by_cases h1 : o = 257
      · subst h1; simp [up2, mQc, e]; omega
      · by_cases h2 : o = 258
        · subst h2; simp [up2, mQc, e]; omega
        · by_cases h3 : o = 259
          · subst h3; simp [up2, mQc, e]; omega
          · by_cases h4 : o = 260
            · subst h4; simp [up2, mQc, e]; omega
            · have hn : ¬ (256 ≤ o ∧ o ≤ 260) := by omega
              simp only [up2, h0, h1, h2, h3, h4, false_and, if_false]
              unfold mQc
              rw [if_neg (fun z => hn z.1), if_neg (fun z => hn z.1)]
  · simp only [up2, hq, and_false, if_false]
    unfold mQc
    by_cases h1 : (256 ≤ o ∧ o ≤ 260) ∧ B ≤ q ∧ q < B + n
    · rw [if_pos h1, if_pos (⟨h1.1, h1.2.1, by omega⟩ : (256 ≤ o ∧ o ≤ 260) ∧ B ≤ q ∧ q < B + (n + 1))]
    · rw [if_neg h1, if_neg (by omega)]
/-- a query made of the tree that is there -/
def mQry (S : IT) : IT := up2 (mClears (up2 (mQc S (12 * (S 100 61 + 1)) (S 100 52)) 262 (S 100 61) (S 100 52))) 100 61 (S 100 61 + 1)
noncomputable def cd_Model_query (I : IT)  : Int := if I 100 51 ≠ 1 ∨ I 100 61 = 20 then 1 else 0
noncomputable def f_Model_query   (S : IT) : IT × Int := (mQry S, S 100 61 + 1 - 1)
noncomputable def r_Model_query  (I : IT)  : IT × Int := callR (cd_Model_query I ) I (f_Model_query  )
theorem sp_Model_query (hM : MW K P) (hq : QB I) (hN : ∀ k, I 260 k = 0 ∨ I 260 k = 1) : Sp m_Model_query false (rmv 1 21) (ex K P J (r_Model_query  I ).1 (.inl (some (vI (r_Model_query  I ).2)))) K P J I [vR (some 100)] := by
  refine Sp.ofV (by decide) (Or.inr rfl) rfl ?_
  have rest : ∀ S : IT, (S = up2 I 100 93 0) → (cd_Model_query I  = 0) → ((I 100 61 ≠ 20)) → VW m_Model_query false (rmv 1 21) (ex K P J (f_Model_query   S).1 (.inl (some (vI (f_Model_query   S).2)))) K P J S 0 0 31 [(0, vR (some 100))] [] := by
    intro S eS hcd q
    have u : ∀ (o : Nat) (k : Int), (o ≠ 100 ∨ k ≠ 93) → S o k = I o k := fun o k h => by rw [eS]; exact if_neg (fun z => h.elim (fun y => y z.1) (fun y => y z.2))
    have b1 := hq.qs
    have b2 := hq.op
    have a61 : 0 ≤ S 100 61 ∧ S 100 61 < 20 := by rw [u 100 61 (by decide)]; omega
    have a52 : 0 ≤ S 100 52 ∧ S 100 52 ≤ 12 := by rw [u 100 52 (by decide)]; omega
    have hN2 : ∀ k, S 260 k = 0 ∨ S 260 k = 1 := fun k => by rw [u 260 k (Or.inl (by decide))]; exact hN k
    clear u eS q hcd b1 b2
    have loop : ∀ (n : Nat) (c : Int), c + n = S 100 52 → 0 ≤ c → VW m_Model_query false (rmv 1 21) (ex K P J (f_Model_query  S).1 (.inl (some (vI (f_Model_query  S).2)))) K P J (mQc S (12 * (S 100 61 + 1)) c) 0 0 33 [(0, vR (some 100)), (1, vI c)] [] := by
      intro n
      induction n with
      | zero =>
        intro c hc h0
        have ec : c = S 100 52 := by omega
        subst ec
        refine VW.iload_n (pc' := 34) d_Model_query_33 rfl rfl ?_
        refine VW.aload_n (pc' := 35) d_Model_query_34 rfl rfl ?_
        refine VW.gI (ci := 11) (T := T11) (N := 94) (k := 52) (k' := 52) (pc' := 38) d_Model_query_35 rfl lk_Model_403 in11 rfl rfl rfl rfl (hM.k rfl) (by first | exact mQc_o (by decide) | exact up2_eq _ _ _ _ | (simp [up2, mClears, mQc] <;> rfl) | rfl) ?_
        refine VW.icmp_ge (tgt := 117) (pc' := 41) d_Model_query_38 rfl rfl (fun c38 => ?_) (fun c38 => ?_)
        · refine VW.aload_n (pc' := 118) d_Model_query_117 rfl rfl ?_
          refine VW.gP (ci := 11) (T := T11) (N := 94) (k := 62) (k' := 62) (pc' := 121) d_Model_query_118 rfl lk_Model_159 in11 rfl rfl rfl rfl (hM.k rfl) (hM.p (r := some 262) 62 rfl rfl) ?_
          refine VW.aload_n (pc' := 122) d_Model_query_121 rfl rfl ?_
          refine VW.gI (ci := 11) (T := T11) (N := 94) (k := 61) (k' := 61) (pc' := 125) d_Model_query_122 rfl lk_Model_428 in11 rfl rfl rfl rfl (hM.k rfl) (by first | exact mQc_o (by decide) | exact up2_eq _ _ _ _ | (simp [up2, mClears, mQc] <;> rfl) | rfl) ?_
          refine VW.aload_n (pc' := 126) d_Model_query_125 rfl rfl ?_
          refine VW.gI (ci := 11) (T := T11) (N := 94) (k := 52) (k' := 52) (pc' := 129) d_Model_query_126 rfl lk_Model_403 in11 rfl rfl rfl rfl (hM.k rfl) (by first | exact mQc_o (by decide) | exact up2_eq _ _ _ _ | (simp [up2, mClears, mQc] <;> rfl) | rfl) ?_
          refine VW.iast (pc' := 130) d_Model_query_129 rfl (hM.k rfl) (by omega) (by omega) ?_
          refine VW.aload_n (pc' := 131) d_Model_query_130 rfl rfl ?_
          refine VW.cV (ci := 11) (T := T11) (N := 94) (pc' := 134) d_Model_query_131 rfl mv_Model_clears lk_Model_425 rfl (hM.k rfl) rfl rfl rfl (Nat.le_refl _) (Nat.le_refl _) (sp_Model_clears hM) rfl rfl ?_
          refine VW.aload_n (pc' := 135) d_Model_query_134 rfl rfl ?_
          refine VW.dup (pc' := 136) d_Model_query_135 rfl rfl ?_
          refine VW.gI (ci := 11) (T := T11) (N := 94) (k := 61) (k' := 61) (pc' := 139) d_Model_query_136 rfl lk_Model_428 in11 rfl rfl rfl rfl (hM.k rfl) (by first | exact mQc_o (by decide) | exact up2_eq _ _ _ _ | (simp [up2, mClears, mQc] <;> rfl) | rfl) ?_
          refine VW.iconst (pc' := 140) d_Model_query_139 rfl (by decide) ?_
          refine VW.iadd (pc' := 141) d_Model_query_140 rfl (by omega) ?_
          refine VW.pI (ci := 11) (T := T11) (N := 94) (k := 61) (k' := 61) (ty := ty11) (pc' := 144) d_Model_query_141 rfl lk_Model_428 in11 tk11 nm11 rfl rfl rfl rfl rfl rfl (hM.k rfl) ?_
          refine VW.aload_n (pc' := 145) d_Model_query_144 rfl rfl ?_
          refine VW.gI (ci := 11) (T := T11) (N := 94) (k := 61) (k' := 61) (pc' := 148) d_Model_query_145 rfl lk_Model_428 in11 rfl rfl rfl rfl (hM.k rfl) (by first | exact mQc_o (by decide) | exact up2_eq _ _ _ _ | (simp [up2, mClears, mQc] <;> rfl) | rfl) ?_
          refine VW.iconst (pc' := 149) d_Model_query_148 rfl (by decide) ?_
          refine VW.isub (pc' := 150) d_Model_query_149 rfl (by omega) ?_
          exact VW.iret d_Model_query_150 rfl rfl (Nat.zero_le _) (Nat.zero_le _) ex_rf
        · exfalso; omega
      | succ n ih =>
        intro c hc h0
        have ih1 := ih (c + 1) (by omega) (by omega)
        rw [← mQc_step h0] at ih1
        refine VW.iload_n (pc' := 34) d_Model_query_33 rfl rfl ?_
        refine VW.aload_n (pc' := 35) d_Model_query_34 rfl rfl ?_
        refine VW.gI (ci := 11) (T := T11) (N := 94) (k := 52) (k' := 52) (pc' := 38) d_Model_query_35 rfl lk_Model_403 in11 rfl rfl rfl rfl (hM.k rfl) (by first | exact mQc_o (by decide) | (simp only [up2_o _ _ _ _ (show (257 : Nat) ≠ 256 by decide), up2_o _ _ _ _ (show (258 : Nat) ≠ 256 by decide), up2_o _ _ _ _ (show (259 : Nat) ≠ 256 by decide), up2_o _ _ _ _ (show (260 : Nat) ≠ 256 by decide), up2_o _ _ _ _ (show (258 : Nat) ≠ 257 by decide), up2_o _ _ _ _ (show (259 : Nat) ≠ 257 by decide), up2_o _ _ _ _ (show (260 : Nat) ≠ 257 by decide), up2_o _ _ _ _ (show (259 : Nat) ≠ 258 by decide), up2_o _ _ _ _ (show (260 : Nat) ≠ 258 by decide), up2_o _ _ _ _ (show (260 : Nat) ≠ 259 by decide)]; exact mQc_low (by omega)) | exact mQc_low (by omega) | rfl) ?_
        refine VW.icmp_ge (tgt := 117) (pc' := 41) d_Model_query_38 rfl rfl (fun c38 => ?_) (fun c38 => ?_)
        · exfalso; omega
        · refine VW.aload_n (pc' := 42) d_Model_query_41 rfl rfl ?_
          refine VW.gI (ci := 11) (T := T11) (N := 94) (k := 61) (k' := 61) (pc' := 45) d_Model_query_42 rfl lk_Model_428 in11 rfl rfl rfl rfl (hM.k rfl) (by first | exact mQc_o (by decide) | (simp only [up2_o _ _ _ _ (show (257 : Nat) ≠ 256 by decide), up2_o _ _ _ _ (show (258 : Nat) ≠ 256 by decide), up2_o _ _ _ _ (show (259 : Nat) ≠ 256 by decide), up2_o _ _ _ _ (show (260 : Nat) ≠ 256 by decide), up2_o _ _ _ _ (show (258 : Nat) ≠ 257 by decide), up2_o _ _ _ _ (show (259 : Nat) ≠ 257 by decide), up2_o _ _ _ _ (show (260 : Nat) ≠ 257 by decide), up2_o _ _ _ _ (show (259 : Nat) ≠ 258 by decide), up2_o _ _ _ _ (show (260 : Nat) ≠ 258 by decide), up2_o _ _ _ _ (show (260 : Nat) ≠ 259 by decide)]; exact mQc_low (by omega)) | exact mQc_low (by omega) | rfl) ?_
          refine VW.cS (pc' := 48) d_Model_query_45 rfl ms_Model_base lk_Model_431 rfl rfl rfl (Nat.le_refl _) (Nat.le_refl _) (sp_Model_base (by omega)) rfl rfl ?_
          refine VW.iload_n (pc' := 49) d_Model_query_48 rfl rfl ?_
          refine VW.iadd (pc' := 50) d_Model_query_49 rfl (by omega) ?_
          refine VW.istore_n (pc' := 51) d_Model_query_50 rfl rfl ?_
          refine VW.aload_n (pc' := 52) d_Model_query_51 rfl rfl ?_
          refine VW.gP (ci := 11) (T := T11) (N := 94) (k := 56) (k' := 56) (pc' := 55) d_Model_query_52 rfl lk_Model_144 in11 rfl rfl rfl rfl (hM.k rfl) (hM.p (r := some 256) 56 rfl rfl) ?_
          refine VW.iload_n (pc' := 56) d_Model_query_55 rfl rfl ?_
          refine VW.aload_n (pc' := 57) d_Model_query_56 rfl rfl ?_
          refine VW.gP (ci := 11) (T := T11) (N := 94) (k := 56) (k' := 56) (pc' := 60) d_Model_query_57 rfl lk_Model_144 in11 rfl rfl rfl rfl (hM.k rfl) (hM.p (r := some 256) 56 rfl rfl) ?_
          refine VW.iload_n (pc' := 61) d_Model_query_60 rfl rfl ?_
          refine VW.ild (pc' := 62) d_Model_query_61 rfl (hM.k rfl) (by omega) (by omega) (by first | exact mQc_o (by decide) | (simp only [up2_o _ _ _ _ (show (257 : Nat) ≠ 256 by decide), up2_o _ _ _ _ (show (258 : Nat) ≠ 256 by decide), up2_o _ _ _ _ (show (259 : Nat) ≠ 256 by decide), up2_o _ _ _ _ (show (260 : Nat) ≠ 256 by decide), up2_o _ _ _ _ (show (258 : Nat) ≠ 257 by decide), up2_o _ _ _ _ (show (259 : Nat) ≠ 257 by decide), up2_o _ _ _ _ (show (260 : Nat) ≠ 257 by decide), up2_o _ _ _ _ (show (259 : Nat) ≠ 258 by decide), up2_o _ _ _ _ (show (260 : Nat) ≠ 258 by decide), up2_o _ _ _ _ (show (260 : Nat) ≠ 259 by decide)]; exact mQc_low (by omega)) | exact mQc_low (by omega) | rfl) ?_
          refine VW.iast (pc' := 63) d_Model_query_62 rfl (hM.k rfl) (by omega) (by omega) ?_
          refine VW.aload_n (pc' := 64) d_Model_query_63 rfl rfl ?_
          refine VW.gP (ci := 11) (T := T11) (N := 94) (k := 57) (k' := 57) (pc' := 67) d_Model_query_64 rfl lk_Model_147 in11 rfl rfl rfl rfl (hM.k rfl) (hM.p (r := some 257) 57 rfl rfl) ?_
          refine VW.iload_n (pc' := 68) d_Model_query_67 rfl rfl ?_
          refine VW.aload_n (pc' := 69) d_Model_query_68 rfl rfl ?_
          refine VW.gP (ci := 11) (T := T11) (N := 94) (k := 57) (k' := 57) (pc' := 72) d_Model_query_69 rfl lk_Model_147 in11 rfl rfl rfl rfl (hM.k rfl) (hM.p (r := some 257) 57 rfl rfl) ?_
          refine VW.iload_n (pc' := 73) d_Model_query_72 rfl rfl ?_
          refine VW.ild (pc' := 74) d_Model_query_73 rfl (hM.k rfl) (by omega) (by omega) (by first | exact mQc_o (by decide) | (simp only [up2_o _ _ _ _ (show (257 : Nat) ≠ 256 by decide), up2_o _ _ _ _ (show (258 : Nat) ≠ 256 by decide), up2_o _ _ _ _ (show (259 : Nat) ≠ 256 by decide), up2_o _ _ _ _ (show (260 : Nat) ≠ 256 by decide), up2_o _ _ _ _ (show (258 : Nat) ≠ 257 by decide), up2_o _ _ _ _ (show (259 : Nat) ≠ 257 by decide), up2_o _ _ _ _ (show (260 : Nat) ≠ 257 by decide), up2_o _ _ _ _ (show (259 : Nat) ≠ 258 by decide), up2_o _ _ _ _ (show (260 : Nat) ≠ 258 by decide), up2_o _ _ _ _ (show (260 : Nat) ≠ 259 by decide)]; exact mQc_low (by omega)) | exact mQc_low (by omega) | rfl) ?_
          refine VW.iast (pc' := 75) d_Model_query_74 rfl (hM.k rfl) (by omega) (by omega) ?_
          refine VW.aload_n (pc' := 76) d_Model_query_75 rfl rfl ?_
          refine VW.gP (ci := 11) (T := T11) (N := 94) (k := 58) (k' := 58) (pc' := 79) d_Model_query_76 rfl lk_Model_150 in11 rfl rfl rfl rfl (hM.k rfl) (hM.p (r := some 258) 58 rfl rfl) ?_
          refine VW.iload_n (pc' := 80) d_Model_query_79 rfl rfl ?_
          refine VW.aload_n (pc' := 81) d_Model_query_80 rfl rfl ?_
          refine VW.gP (ci := 11) (T := T11) (N := 94) (k := 58) (k' := 58) (pc' := 84) d_Model_query_81 rfl lk_Model_150 in11 rfl rfl rfl rfl (hM.k rfl) (hM.p (r := some 258) 58 rfl rfl) ?_
          refine VW.iload_n (pc' := 85) d_Model_query_84 rfl rfl ?_
          refine VW.ild (pc' := 86) d_Model_query_85 rfl (hM.k rfl) (by omega) (by omega) (by first | exact mQc_o (by decide) | (simp only [up2_o _ _ _ _ (show (257 : Nat) ≠ 256 by decide), up2_o _ _ _ _ (show (258 : Nat) ≠ 256 by decide), up2_o _ _ _ _ (show (259 : Nat) ≠ 256 by decide), up2_o _ _ _ _ (show (260 : Nat) ≠ 256 by decide), up2_o _ _ _ _ (show (258 : Nat) ≠ 257 by decide), up2_o _ _ _ _ (show (259 : Nat) ≠ 257 by decide), up2_o _ _ _ _ (show (260 : Nat) ≠ 257 by decide), up2_o _ _ _ _ (show (259 : Nat) ≠ 258 by decide), up2_o _ _ _ _ (show (260 : Nat) ≠ 258 by decide), up2_o _ _ _ _ (show (260 : Nat) ≠ 259 by decide)]; exact mQc_low (by omega)) | exact mQc_low (by omega) | rfl) ?_
          refine VW.iast (pc' := 87) d_Model_query_86 rfl (hM.k rfl) (by omega) (by omega) ?_
          refine VW.aload_n (pc' := 88) d_Model_query_87 rfl rfl ?_
          refine VW.gP (ci := 11) (T := T11) (N := 94) (k := 59) (k' := 59) (pc' := 91) d_Model_query_88 rfl lk_Model_153 in11 rfl rfl rfl rfl (hM.k rfl) (hM.p (r := some 259) 59 rfl rfl) ?_
          refine VW.iload_n (pc' := 92) d_Model_query_91 rfl rfl ?_
          refine VW.aload_n (pc' := 93) d_Model_query_92 rfl rfl ?_
          refine VW.gP (ci := 11) (T := T11) (N := 94) (k := 59) (k' := 59) (pc' := 96) d_Model_query_93 rfl lk_Model_153 in11 rfl rfl rfl rfl (hM.k rfl) (hM.p (r := some 259) 59 rfl rfl) ?_
          refine VW.iload_n (pc' := 97) d_Model_query_96 rfl rfl ?_
          refine VW.ild (pc' := 98) d_Model_query_97 rfl (hM.k rfl) (by omega) (by omega) (by first | exact mQc_o (by decide) | (simp only [up2_o _ _ _ _ (show (257 : Nat) ≠ 256 by decide), up2_o _ _ _ _ (show (258 : Nat) ≠ 256 by decide), up2_o _ _ _ _ (show (259 : Nat) ≠ 256 by decide), up2_o _ _ _ _ (show (260 : Nat) ≠ 256 by decide), up2_o _ _ _ _ (show (258 : Nat) ≠ 257 by decide), up2_o _ _ _ _ (show (259 : Nat) ≠ 257 by decide), up2_o _ _ _ _ (show (260 : Nat) ≠ 257 by decide), up2_o _ _ _ _ (show (259 : Nat) ≠ 258 by decide), up2_o _ _ _ _ (show (260 : Nat) ≠ 258 by decide), up2_o _ _ _ _ (show (260 : Nat) ≠ 259 by decide)]; exact mQc_low (by omega)) | exact mQc_low (by omega) | rfl) ?_
          refine VW.iast (pc' := 99) d_Model_query_98 rfl (hM.k rfl) (by omega) (by omega) ?_
          refine VW.aload_n (pc' := 100) d_Model_query_99 rfl rfl ?_
          refine VW.gP (ci := 11) (T := T11) (N := 94) (k := 60) (k' := 60) (pc' := 103) d_Model_query_100 rfl lk_Model_156 in11 rfl rfl rfl rfl (hM.k rfl) (hM.p (r := some 260) 60 rfl rfl) ?_
          refine VW.iload_n (pc' := 104) d_Model_query_103 rfl rfl ?_
          refine VW.aload_n (pc' := 105) d_Model_query_104 rfl rfl ?_
          refine VW.gP (ci := 11) (T := T11) (N := 94) (k := 60) (k' := 60) (pc' := 108) d_Model_query_105 rfl lk_Model_156 in11 rfl rfl rfl rfl (hM.k rfl) (hM.p (r := some 260) 60 rfl rfl) ?_
          refine VW.iload_n (pc' := 109) d_Model_query_108 rfl rfl ?_
          refine VW.zld (pc' := 110) d_Model_query_109 rfl (hM.k rfl) (by omega) (by omega) (by first | exact mQc_o (by decide) | (simp only [up2_o _ _ _ _ (show (257 : Nat) ≠ 256 by decide), up2_o _ _ _ _ (show (258 : Nat) ≠ 256 by decide), up2_o _ _ _ _ (show (259 : Nat) ≠ 256 by decide), up2_o _ _ _ _ (show (260 : Nat) ≠ 256 by decide), up2_o _ _ _ _ (show (258 : Nat) ≠ 257 by decide), up2_o _ _ _ _ (show (259 : Nat) ≠ 257 by decide), up2_o _ _ _ _ (show (260 : Nat) ≠ 257 by decide), up2_o _ _ _ _ (show (259 : Nat) ≠ 258 by decide), up2_o _ _ _ _ (show (260 : Nat) ≠ 258 by decide), up2_o _ _ _ _ (show (260 : Nat) ≠ 259 by decide)]; exact mQc_low (by omega)) | exact mQc_low (by omega) | rfl) ?_
          refine VW.zast (pc' := 111) d_Model_query_110 rfl (hM.k rfl) (by omega) (by omega) (hN2 c) ?_
          refine VW.iinc (pc' := 114) d_Model_query_111 rfl rfl rfl (by omega) ?_
          refine VW.goto (pc' := 33) d_Model_query_114 rfl ?_
          refine VW.pick [0, 1] ?_
          exact ih1
    refine VW.iconst (pc' := 32) d_Model_query_31 rfl (by decide) ?_
    refine VW.istore_n (pc' := 33) d_Model_query_32 rfl rfl ?_
    refine VW.nrm ?_
    have l := loop (S 100 52).toNat 0 (by omega) (by omega)
    rw [mQc_0] at l
    exact l
  have after : ∀ z : Int, z = cd_Model_query I  → VW m_Model_query false (rmv 1 21) (ex K P J (r_Model_query  I ).1 (.inl (some (vI (r_Model_query  I ).2)))) K P J (up2 I 100 93 z) 0 0 26 [(0, vR (some 100))] [vI (bI (0 < z))] := by
    intro z hz
    unfold r_Model_query
    rw [← hz]
    have q : ¬ 0 < z → (z = 0 ∧ ((I 100 61 ≠ 20))) := by
      intro h0
      have hz' := hz
      unfold cd_Model_query at hz'
      (repeat' split at hz') <;> first | (exfalso; omega) | (refine ⟨by omega, ?_⟩; first | trivial | omega)
    refine VW.if_eq (tgt := 31) (pc' := 29) d_Model_query_26 rfl rfl (fun c26 => ?_) (fun c26 => ?_)
    · try have e26 := bIe c26
      refine VW.nrm ?_
      rw [callR_0 e26]
      have qq := q e26
      have hz2 := hz.symm.trans qq.1
      rw [qq.1]
      exact rest _ rfl hz2 qq.2
    · try have e26 := bIn c26
      refine VW.iconst (pc' := 30) d_Model_query_29 rfl (by decide) ?_
      exact VW.iret d_Model_query_30 rfl rfl (Nat.zero_le _) (Nat.zero_le _) (ex_r (callR_1 e26))
  have b0 := hq.tr
  have b1 := hq.op
  have b2 := hq.sc
  refine VW.aload_n (pc' := 1) d_Model_query_0 rfl rfl ?_
  refine VW.aload_n (pc' := 2) d_Model_query_1 rfl rfl ?_
  refine VW.gI (ci := 11) (T := T11) (N := 94) (k := 51) (k' := 51) (pc' := 5) d_Model_query_2 rfl lk_Model_406 in11 rfl rfl rfl rfl (hM.k rfl) (by first | assumption | (simp [up2] <;> rfl) | rfl) ?_
  refine VW.iconst (pc' := 6) d_Model_query_5 rfl (by decide) ?_
  refine VW.icmp_ne (tgt := 18) (pc' := 9) d_Model_query_6 rfl rfl (fun c6 => ?_) (fun c6 => ?_)
  · refine VW.iconst (pc' := 19) d_Model_query_18 rfl (by decide) ?_
    refine VW.goto (pc' := 23) d_Model_query_19 rfl ?_
    refine VW.cV (ci := 11) (T := T11) (N := 94) (pc' := 26) d_Model_query_23 rfl mv_Model_fails lk_Model_254 rfl (hM.k rfl) rfl rfl rfl (Nat.le_refl _) (Nat.le_refl _) (sp_Model_fails hM) rfl rfl ?_
    refine VW.pick [0] ?_
    exact after _ (by unfold cd_Model_query; (repeat' split) <;> first | rfl | (exfalso; omega))
  · refine VW.aload_n (pc' := 10) d_Model_query_9 rfl rfl ?_
    refine VW.gI (ci := 11) (T := T11) (N := 94) (k := 61) (k' := 61) (pc' := 13) d_Model_query_10 rfl lk_Model_428 in11 rfl rfl rfl rfl (hM.k rfl) (by first | assumption | (simp [up2] <;> rfl) | rfl) ?_
    refine VW.bipush (pc' := 15) d_Model_query_13 rfl (by decide) ?_
    refine VW.icmp_ne (tgt := 22) (pc' := 18) d_Model_query_15 rfl rfl (fun c15 => ?_) (fun c15 => ?_)
    · refine VW.iconst (pc' := 23) d_Model_query_22 rfl (by decide) ?_
      refine VW.cV (ci := 11) (T := T11) (N := 94) (pc' := 26) d_Model_query_23 rfl mv_Model_fails lk_Model_254 rfl (hM.k rfl) rfl rfl rfl (Nat.le_refl _) (Nat.le_refl _) (sp_Model_fails hM) rfl rfl ?_
      refine VW.pick [0] ?_
      exact after _ (by unfold cd_Model_query; (repeat' split) <;> first | rfl | (exfalso; omega))
    · refine VW.iconst (pc' := 19) d_Model_query_18 rfl (by decide) ?_
      refine VW.goto (pc' := 23) d_Model_query_19 rfl ?_
      refine VW.cV (ci := 11) (T := T11) (N := 94) (pc' := 26) d_Model_query_23 rfl mv_Model_fails lk_Model_254 rfl (hM.k rfl) rfl rfl rfl (Nat.le_refl _) (Nat.le_refl _) (sp_Model_fails hM) rfl rfl ?_
      refine VW.pick [0] ?_
      exact after _ (by unfold cd_Model_query; (repeat' split) <;> first | rfl | (exfalso; omega))
end
