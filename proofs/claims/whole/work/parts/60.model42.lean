section
variable {K : KT} {P : PT} {J I : IT} {Q : PQ}
def AblP (I : IT) (i q a c : Int) (n w : Nat) (L : List (List Int)) (v : Int) (I' : IT) : Prop :=
  (¬ ((0 ≤ i ∧ i < I 100 19) ∧ (0 ≤ q ∧ q < I 100 61)) ∧ v = 0 ∧ I' = up2 I 100 93 1) ∨ (((0 ≤ i ∧ i < I 100 19) ∧ (0 ≤ q ∧ q < I 100 61)) ∧ I 221 i ≠ 0 ∧ v = 0 ∧ I' = up2 I 100 93 2) ∨
  (((0 ≤ i ∧ i < I 100 19) ∧ (0 ≤ q ∧ q < I 100 61)) ∧ I 221 i = 0 ∧ ∃ U, FnR I U (I 223 i) (I 220 i) q n w L ∧ ((evF I (I 223 i) (I 220 i) (12 * (q + 1)) n ∧ v = 0 ∧ I' = up2 U 100 93 3) ∨ (¬ evF I (I 223 i) (I 220 i) (12 * (q + 1)) n ∧ ¬ ((0 ≤ a ∧ a ≤ (L.length : Int) - 1) ∧ (0 ≤ c ∧ c ≤ (w : Int) - 1)) ∧ v = 0 ∧ I' = up2 U 100 93 1) ∨ (¬ evF I (I 223 i) (I 220 i) (12 * (q + 1)) n ∧ ((0 ≤ a ∧ a ≤ (L.length : Int) - 1) ∧ (0 ≤ c ∧ c ≤ (w : Int) - 1)) ∧ v = U 270 ((w : Int) * a + c) ∧ I' = up2 U 100 93 0)))
theorem sp_Model_atByLoops {i q a c : Int} {n w : Nat} {L : List (List Int)} (hM : MW K P) (hb : MB I) (hq : 0 ≤ I 100 61 ∧ I 100 61 ≤ 20) (hf : (0 ≤ i ∧ i < I 100 19) → (0 ≤ q ∧ q < I 100 61) → I 221 i = 0 → FnOK I (I 223 i) (I 220 i) q n w L) : Sp m_Model_atByLoops false (rmv 4 99) (exV K P J (AblP I i q a c n w L)) K P J I [vR (some 100), vI i, vI q, vI a, vI c] := by
  refine Sp.ofV (by decide) (Or.inr rfl) rfl ?_
  have b0 := hb.trn
  have p0 := hb.pla i
  have lb : (0 ≤ i ∧ i < I 100 19) → (0 ≤ q ∧ q < I 100 61) → I 221 i = 0 → w ≤ 10 ∧ L.length ≤ 512 := fun h1 h2 h3 => (hf h1 h2 h3).b
  have mm : w ≤ 10 ∧ L.length ≤ 512 → (0 ≤ a ∧ a ≤ (L.length : Int) - 1) → 0 ≤ (w : Int) * a ∧ (w : Int) * a ≤ 10 * 512 := fun h1 h2 => ⟨mulNN (by omega) (by omega), mulUp (by omega) (by omega) (by omega) (by omega)⟩
  have fd : (0 ≤ i ∧ i < I 100 19) → (0 ≤ q ∧ q < I 100 61) → I 221 i = 0 → Sp m_Model_finds false (rmv 3 75) (exU K P J (.inl none) (fun U => FnR I U (I 223 i) (I 220 i) q n w L)) K P J I [vR (some 100), vI q, vI (I 223 i), vI (I 220 i)] := fun h1 h2 h3 => sp_Model_finds hM hb (by omega) (by omega) (hf h1 h2 h3)
  have r1 : ¬ ((0 ≤ i ∧ i < I 100 19) ∧ (0 ≤ q ∧ q < I 100 61)) → AblP I i q a c n w L 0 (up2 I 100 93 1) := fun z => Or.inl ⟨z, rfl, rfl⟩
  have r2 : (0 ≤ i ∧ i < I 100 19) → (0 ≤ q ∧ q < I 100 61) → I 221 i ≠ 0 → AblP I i q a c n w L 0 (up2 I 100 93 2) := fun z1 z2 z3 => Or.inr (Or.inl ⟨⟨z1, z2⟩, z3, rfl, rfl⟩)
  have r3 : ∀ U, (0 ≤ i ∧ i < I 100 19) → (0 ≤ q ∧ q < I 100 61) → I 221 i = 0 → FnR I U (I 223 i) (I 220 i) q n w L → evF I (I 223 i) (I 220 i) (12 * (q + 1)) n → AblP I i q a c n w L 0 (up2 U 100 93 3) := fun U z1 z2 z3 z4 z5 => Or.inr (Or.inr ⟨⟨z1, z2⟩, z3, U, z4, Or.inl ⟨z5, rfl, rfl⟩⟩)
  have r4 : ∀ U, (0 ≤ i ∧ i < I 100 19) → (0 ≤ q ∧ q < I 100 61) → I 221 i = 0 → FnR I U (I 223 i) (I 220 i) q n w L → ¬ evF I (I 223 i) (I 220 i) (12 * (q + 1)) n → ¬ ((0 ≤ a ∧ a ≤ (L.length : Int) - 1) ∧ (0 ≤ c ∧ c ≤ (w : Int) - 1)) → AblP I i q a c n w L 0 (up2 U 100 93 1) := fun U z1 z2 z3 z4 z5 z6 => Or.inr (Or.inr ⟨⟨z1, z2⟩, z3, U, z4, Or.inr (Or.inl ⟨z5, z6, rfl, rfl⟩)⟩)
  have r5 : ∀ U, (0 ≤ i ∧ i < I 100 19) → (0 ≤ q ∧ q < I 100 61) → I 221 i = 0 → FnR I U (I 223 i) (I 220 i) q n w L → ¬ evF I (I 223 i) (I 220 i) (12 * (q + 1)) n → (0 ≤ a ∧ a ≤ (L.length : Int) - 1) → (0 ≤ c ∧ c ≤ (w : Int) - 1) → AblP I i q a c n w L (U 270 ((w : Int) * a + c)) (up2 U 100 93 0) := fun U z1 z2 z3 z4 z5 z6 z7 => Or.inr (Or.inr ⟨⟨z1, z2⟩, z3, U, z4, Or.inr (Or.inr ⟨z5, ⟨z6, z7⟩, rfl, rfl⟩)⟩)
  clear hf
  have t162 : ∀ U, (0 ≤ i ∧ i < I 100 19) → (0 ≤ q ∧ q < I 100 61) → I 221 i = 0 → FnR I U (I 223 i) (I 220 i) q n w L → ¬ evF I (I 223 i) (I 220 i) (12 * (q + 1)) n → (0 ≤ a ∧ a ≤ (L.length : Int) - 1) → (0 ≤ c ∧ c ≤ (w : Int) - 1) → VW m_Model_atByLoops false (rmv 4 99) (exV K P J (AblP I i q a c n w L)) K P J (up2 U 100 93 0) 0 0 162 [(0, vR (some 100)), (1, vI i), (2, vI q), (3, vI a), (4, vI c)] [] := by
    intro U z1 z2 z3 hU z5 x91 x108
    have lb1 := lb z1 z2 z3
    have m1 := mm lb1 x91
    have fin := r5 U z1 z2 z3 hU z5 x91 x108
    clear r1 r2 r3 r4 r5 fd
    refine VW.aload_n (pc' := 163) d_Model_atByLoops_162 rfl rfl ?_
    refine VW.gP (ci := 11) (T := T11) (N := 94) (k := 70) (k' := 70) (pc' := 166) d_Model_atByLoops_163 rfl lk_Model_178 in11 rfl rfl rfl rfl (hM.k rfl) (hM.p (r := some 270) 70 rfl rfl) ?_
    refine VW.aload_n (pc' := 167) d_Model_atByLoops_166 rfl rfl ?_
    refine VW.gP (ci := 11) (T := T11) (N := 94) (k := 74) (k' := 74) (pc' := 170) d_Model_atByLoops_167 rfl lk_Model_187 in11 rfl rfl rfl rfl (hM.k rfl) (hM.p (r := some 274) 74 rfl rfl) ?_
    refine VW.iconst (pc' := 171) d_Model_atByLoops_170 rfl (by decide) ?_
    refine VW.ild (pc' := 172) d_Model_atByLoops_171 rfl (hM.k rfl) (by omega) (by omega) (by first | exact hU.1.2.2.2.2 | exact hU.1.1 | exact hU.1.2.1 | exact (up2_o _ _ _ _ (by decide)).trans hU.1.2.1 | exact up2_o _ _ _ _ (by decide) | rfl) ?_
    refine VW.iload_n (pc' := 173) d_Model_atByLoops_172 rfl rfl ?_
    refine VW.imul (pc' := 174) d_Model_atByLoops_173 rfl (by omega) ?_
    refine VW.iload (pc' := 176) d_Model_atByLoops_174 rfl rfl ?_
    refine VW.iadd (pc' := 177) d_Model_atByLoops_176 rfl (by omega) ?_
    refine VW.ild (pc' := 178) d_Model_atByLoops_177 rfl (hM.k rfl) (by omega) (by omega) (by first | exact hU.1.2.2.2.2 | exact hU.1.1 | exact hU.1.2.1 | exact (up2_o _ _ _ _ (by decide)).trans hU.1.2.1 | exact up2_o _ _ _ _ (by decide) | rfl) ?_
    exact VW.iret d_Model_atByLoops_178 rfl rfl (Nat.zero_le _) (Nat.zero_le _) (exV_mk fin)
  refine VW.aload_n (pc' := 1) d_Model_atByLoops_0 rfl rfl ?_
  refine VW.iload_n (pc' := 2) d_Model_atByLoops_1 rfl rfl ?_
  refine VW.cV (ci := 11) (T := T11) (N := 94) (pc' := 5) d_Model_atByLoops_2 rfl mv_Model_isTransaction lk_Model_376 rfl (hM.k rfl) rfl rfl rfl (Nat.le_refl _) (Nat.le_refl _) (sp_Model_isTransaction hM hb.trn.1) rfl rfl ?_
  refine VW.if_eq (tgt := 20) (pc' := 8) d_Model_atByLoops_5 rfl rfl (fun c5 => ?_) (fun c5 => ?_)
  · try have e5 := bIe c5
    refine VW.iconst (pc' := 21) d_Model_atByLoops_20 rfl (by decide) ?_
    refine VW.istore (pc' := 23) d_Model_atByLoops_21 rfl rfl ?_
    refine VW.iload (pc' := 25) d_Model_atByLoops_23 rfl rfl ?_
    refine VW.if_eq (tgt := 41) (pc' := 28) d_Model_atByLoops_25 rfl rfl (fun _ => ?_) (fun c25 => absurd c25 (by decide))
    refine VW.iconst (pc' := 42) d_Model_atByLoops_41 rfl (by decide) ?_
    refine VW.istore (pc' := 44) d_Model_atByLoops_42 rfl rfl ?_
    refine VW.iload (pc' := 46) d_Model_atByLoops_44 rfl rfl ?_
    refine VW.if_eq (tgt := 66) (pc' := 49) d_Model_atByLoops_46 rfl rfl (fun _ => ?_) (fun c46 => absurd c46 (by decide))
    refine VW.iload (pc' := 68) d_Model_atByLoops_66 rfl rfl ?_
    refine VW.if_eq (tgt := 111) (pc' := 71) d_Model_atByLoops_68 rfl rfl (fun _ => ?_) (fun c68 => absurd c68 (by decide))
    refine VW.iconst (pc' := 112) d_Model_atByLoops_111 rfl (by decide) ?_
    refine VW.goto (pc' := 116) d_Model_atByLoops_112 rfl ?_
    refine VW.istore (pc' := 118) d_Model_atByLoops_116 rfl rfl ?_
    refine VW.aload_n (pc' := 119) d_Model_atByLoops_118 rfl rfl ?_
    refine VW.iload (pc' := 121) d_Model_atByLoops_119 rfl rfl ?_
    refine VW.if_eq (tgt := 129) (pc' := 124) d_Model_atByLoops_121 rfl rfl (fun _ => ?_) (fun c121 => absurd c121 (by decide))
    refine VW.iconst (pc' := 130) d_Model_atByLoops_129 rfl (by decide) ?_
    refine VW.goto (pc' := 154) d_Model_atByLoops_130 rfl ?_
    refine VW.cV (ci := 11) (T := T11) (N := 94) (pc' := 157) d_Model_atByLoops_154 rfl mv_Model_fails lk_Model_254 rfl (hM.k rfl) rfl rfl rfl (Nat.le_refl _) (Nat.le_refl _) (sp_Model_fails hM) rfl rfl ?_
    refine VW.if_eq (tgt := 162) (pc' := 160) d_Model_atByLoops_157 rfl rfl (fun c157 => ?_) (fun c157 => ?_)
    · try have e157 := bIe c157
      refine VW.pick [0, 1, 2, 3, 4] ?_
      first | (exfalso; omega) | exact t162 U e5 e13 c34 hU e75 (bIn c91) (bIn c108)
    · try have e157 := bIn c157
      refine VW.iconst (pc' := 161) d_Model_atByLoops_160 rfl (by decide) ?_
      exact VW.iret d_Model_atByLoops_161 rfl rfl (Nat.zero_le _) (Nat.zero_le _) (by first | (exfalso; omega) | exact exV_mk (r1 (fun z => e5 z.1)) | exact exV_mk (r1 (fun z => e13 z.2)) | exact exV_mk (r2 e5 e13 c34) | exact exV_mk (r3 U e5 e13 c34 hU e75) | exact exV_mk (r4 U e5 e13 c34 hU e75 (fun z => e91 z.1)) | exact exV_mk (r4 U e5 e13 c34 hU e75 (fun z => e108 z.2)))
  · try have e5 := bIn c5
    refine VW.aload_n (pc' := 9) d_Model_atByLoops_8 rfl rfl ?_
    refine VW.iload_n (pc' := 10) d_Model_atByLoops_9 rfl rfl ?_
    refine VW.cV (ci := 11) (T := T11) (N := 94) (pc' := 13) d_Model_atByLoops_10 rfl mv_Model_isQuery lk_Model_486 rfl (hM.k rfl) rfl rfl rfl (Nat.le_refl _) (Nat.le_refl _) (sp_Model_isQuery hM hq.1) rfl rfl ?_
    refine VW.if_eq (tgt := 20) (pc' := 16) d_Model_atByLoops_13 rfl rfl (fun c13 => ?_) (fun c13 => ?_)
    · try have e13 := bIe c13
      refine VW.iconst (pc' := 21) d_Model_atByLoops_20 rfl (by decide) ?_
      refine VW.istore (pc' := 23) d_Model_atByLoops_21 rfl rfl ?_
      refine VW.iload (pc' := 25) d_Model_atByLoops_23 rfl rfl ?_
      refine VW.if_eq (tgt := 41) (pc' := 28) d_Model_atByLoops_25 rfl rfl (fun _ => ?_) (fun c25 => absurd c25 (by decide))
      refine VW.iconst (pc' := 42) d_Model_atByLoops_41 rfl (by decide) ?_
      refine VW.istore (pc' := 44) d_Model_atByLoops_42 rfl rfl ?_
      refine VW.iload (pc' := 46) d_Model_atByLoops_44 rfl rfl ?_
      refine VW.if_eq (tgt := 66) (pc' := 49) d_Model_atByLoops_46 rfl rfl (fun _ => ?_) (fun c46 => absurd c46 (by decide))
      refine VW.iload (pc' := 68) d_Model_atByLoops_66 rfl rfl ?_
      refine VW.if_eq (tgt := 111) (pc' := 71) d_Model_atByLoops_68 rfl rfl (fun _ => ?_) (fun c68 => absurd c68 (by decide))
      refine VW.iconst (pc' := 112) d_Model_atByLoops_111 rfl (by decide) ?_
      refine VW.goto (pc' := 116) d_Model_atByLoops_112 rfl ?_
      refine VW.istore (pc' := 118) d_Model_atByLoops_116 rfl rfl ?_
      refine VW.aload_n (pc' := 119) d_Model_atByLoops_118 rfl rfl ?_
      refine VW.iload (pc' := 121) d_Model_atByLoops_119 rfl rfl ?_
      refine VW.if_eq (tgt := 129) (pc' := 124) d_Model_atByLoops_121 rfl rfl (fun _ => ?_) (fun c121 => absurd c121 (by decide))
      refine VW.iconst (pc' := 130) d_Model_atByLoops_129 rfl (by decide) ?_
      refine VW.goto (pc' := 154) d_Model_atByLoops_130 rfl ?_
      refine VW.cV (ci := 11) (T := T11) (N := 94) (pc' := 157) d_Model_atByLoops_154 rfl mv_Model_fails lk_Model_254 rfl (hM.k rfl) rfl rfl rfl (Nat.le_refl _) (Nat.le_refl _) (sp_Model_fails hM) rfl rfl ?_
      refine VW.if_eq (tgt := 162) (pc' := 160) d_Model_atByLoops_157 rfl rfl (fun c157 => ?_) (fun c157 => ?_)
      · try have e157 := bIe c157
        refine VW.pick [0, 1, 2, 3, 4] ?_
        first | (exfalso; omega) | exact t162 U e5 e13 c34 hU e75 (bIn c91) (bIn c108)
      · try have e157 := bIn c157
        refine VW.iconst (pc' := 161) d_Model_atByLoops_160 rfl (by decide) ?_
        exact VW.iret d_Model_atByLoops_161 rfl rfl (Nat.zero_le _) (Nat.zero_le _) (by first | (exfalso; omega) | exact exV_mk (r1 (fun z => e5 z.1)) | exact exV_mk (r1 (fun z => e13 z.2)) | exact exV_mk (r2 e5 e13 c34) | exact exV_mk (r3 U e5 e13 c34 hU e75) | exact exV_mk (r4 U e5 e13 c34 hU e75 (fun z => e91 z.1)) | exact exV_mk (r4 U e5 e13 c34 hU e75 (fun z => e108 z.2)))
    · try have e13 := bIn c13
      refine VW.iconst (pc' := 17) d_Model_atByLoops_16 rfl (by decide) ?_
      refine VW.goto (pc' := 21) d_Model_atByLoops_17 rfl ?_
      refine VW.istore (pc' := 23) d_Model_atByLoops_21 rfl rfl ?_
      refine VW.iload (pc' := 25) d_Model_atByLoops_23 rfl rfl ?_
      refine VW.if_eq (tgt := 41) (pc' := 28) d_Model_atByLoops_25 rfl rfl (fun c25 => absurd c25 (by decide)) (fun _ => ?_)
      have x5 := bIn c5
      refine VW.aload_n (pc' := 29) d_Model_atByLoops_28 rfl rfl ?_
      refine VW.gP (ci := 11) (T := T11) (N := 94) (k := 21) (k' := 21) (pc' := 32) d_Model_atByLoops_29 rfl lk_Model_61 in11 rfl rfl rfl rfl (hM.k rfl) (hM.p (r := some 221) 21 rfl rfl) ?_
      refine VW.iload_n (pc' := 33) d_Model_atByLoops_32 rfl rfl ?_
      refine VW.ild (pc' := 34) d_Model_atByLoops_33 rfl (hM.k rfl) (by omega) (by omega) (by first | exact hU.1.2.2.2.2 | exact hU.1.1 | exact hU.1.2.1 | exact (up2_o _ _ _ _ (by decide)).trans hU.1.2.1 | exact up2_o _ _ _ _ (by decide) | rfl) ?_
      refine VW.if_ne (tgt := 41) (pc' := 37) d_Model_atByLoops_34 rfl rfl (fun c34 => ?_) (fun c34 => ?_)
      · try have e34 := bIn c34
        refine VW.iconst (pc' := 42) d_Model_atByLoops_41 rfl (by decide) ?_
        refine VW.istore (pc' := 44) d_Model_atByLoops_42 rfl rfl ?_
        refine VW.iload (pc' := 46) d_Model_atByLoops_44 rfl rfl ?_
        refine VW.if_eq (tgt := 66) (pc' := 49) d_Model_atByLoops_46 rfl rfl (fun _ => ?_) (fun c46 => absurd c46 (by decide))
        refine VW.iload (pc' := 68) d_Model_atByLoops_66 rfl rfl ?_
        refine VW.if_eq (tgt := 111) (pc' := 71) d_Model_atByLoops_68 rfl rfl (fun _ => ?_) (fun c68 => absurd c68 (by decide))
        refine VW.iconst (pc' := 112) d_Model_atByLoops_111 rfl (by decide) ?_
        refine VW.goto (pc' := 116) d_Model_atByLoops_112 rfl ?_
        refine VW.istore (pc' := 118) d_Model_atByLoops_116 rfl rfl ?_
        refine VW.aload_n (pc' := 119) d_Model_atByLoops_118 rfl rfl ?_
        refine VW.iload (pc' := 121) d_Model_atByLoops_119 rfl rfl ?_
        refine VW.if_eq (tgt := 129) (pc' := 124) d_Model_atByLoops_121 rfl rfl (fun c121 => absurd c121 (by decide)) (fun _ => ?_)
        refine VW.iload (pc' := 126) d_Model_atByLoops_124 rfl rfl ?_
        refine VW.if_ne (tgt := 133) (pc' := 129) d_Model_atByLoops_126 rfl rfl (fun _ => ?_) (fun c126 => absurd c126 (by decide))
        refine VW.iload (pc' := 135) d_Model_atByLoops_133 rfl rfl ?_
        refine VW.if_ne (tgt := 142) (pc' := 138) d_Model_atByLoops_135 rfl rfl (fun c135 => absurd c135 (by decide)) (fun _ => ?_)
        refine VW.iconst (pc' := 139) d_Model_atByLoops_138 rfl (by decide) ?_
        refine VW.goto (pc' := 154) d_Model_atByLoops_139 rfl ?_
        refine VW.cV (ci := 11) (T := T11) (N := 94) (pc' := 157) d_Model_atByLoops_154 rfl mv_Model_fails lk_Model_254 rfl (hM.k rfl) rfl rfl rfl (Nat.le_refl _) (Nat.le_refl _) (sp_Model_fails hM) rfl rfl ?_
        refine VW.if_eq (tgt := 162) (pc' := 160) d_Model_atByLoops_157 rfl rfl (fun c157 => ?_) (fun c157 => ?_)
        · try have e157 := bIe c157
          refine VW.pick [0, 1, 2, 3, 4] ?_
          first | (exfalso; omega) | exact t162 U e5 e13 c34 hU e75 (bIn c91) (bIn c108)
        · try have e157 := bIn c157
          refine VW.iconst (pc' := 161) d_Model_atByLoops_160 rfl (by decide) ?_
          exact VW.iret d_Model_atByLoops_161 rfl rfl (Nat.zero_le _) (Nat.zero_le _) (by first | (exfalso; omega) | exact exV_mk (r1 (fun z => e5 z.1)) | exact exV_mk (r1 (fun z => e13 z.2)) | exact exV_mk (r2 e5 e13 c34) | exact exV_mk (r3 U e5 e13 c34 hU e75) | exact exV_mk (r4 U e5 e13 c34 hU e75 (fun z => e91 z.1)) | exact exV_mk (r4 U e5 e13 c34 hU e75 (fun z => e108 z.2)))
      · try have e34 := bIe c34
        refine VW.iconst (pc' := 38) d_Model_atByLoops_37 rfl (by decide) ?_
        refine VW.goto (pc' := 42) d_Model_atByLoops_38 rfl ?_
        refine VW.istore (pc' := 44) d_Model_atByLoops_42 rfl rfl ?_
        refine VW.iload (pc' := 46) d_Model_atByLoops_44 rfl rfl ?_
        refine VW.if_eq (tgt := 66) (pc' := 49) d_Model_atByLoops_46 rfl rfl (fun c46 => absurd c46 (by decide)) (fun _ => ?_)
        have lb1 := lb e5 e13 c34
        refine VW.aload_n (pc' := 50) d_Model_atByLoops_49 rfl rfl ?_
        refine VW.iload_n (pc' := 51) d_Model_atByLoops_50 rfl rfl ?_
        refine VW.aload_n (pc' := 52) d_Model_atByLoops_51 rfl rfl ?_
        refine VW.gP (ci := 11) (T := T11) (N := 94) (k := 23) (k' := 23) (pc' := 55) d_Model_atByLoops_52 rfl lk_Model_67 in11 rfl rfl rfl rfl (hM.k rfl) (hM.p (r := some 223) 23 rfl rfl) ?_
        refine VW.iload_n (pc' := 56) d_Model_atByLoops_55 rfl rfl ?_
        refine VW.ild (pc' := 57) d_Model_atByLoops_56 rfl (hM.k rfl) (by omega) (by omega) (by first | exact hU.1.2.2.2.2 | exact hU.1.1 | exact hU.1.2.1 | exact (up2_o _ _ _ _ (by decide)).trans hU.1.2.1 | exact up2_o _ _ _ _ (by decide) | rfl) ?_
        refine VW.aload_n (pc' := 58) d_Model_atByLoops_57 rfl rfl ?_
        refine VW.gP (ci := 11) (T := T11) (N := 94) (k := 20) (k' := 20) (pc' := 61) d_Model_atByLoops_58 rfl lk_Model_58 in11 rfl rfl rfl rfl (hM.k rfl) (hM.p (r := some 220) 20 rfl rfl) ?_
        refine VW.iload_n (pc' := 62) d_Model_atByLoops_61 rfl rfl ?_
        refine VW.ild (pc' := 63) d_Model_atByLoops_62 rfl (hM.k rfl) (by omega) (by omega) (by first | exact hU.1.2.2.2.2 | exact hU.1.1 | exact hU.1.2.1 | exact (up2_o _ _ _ _ (by decide)).trans hU.1.2.1 | exact up2_o _ _ _ _ (by decide) | rfl) ?_
        refine VW.cVu (ci := 11) (T := T11) (N := 94) (pc' := 66) d_Model_atByLoops_63 rfl mv_Model_finds lk_Model_489 rfl (hM.k rfl) rfl rfl rfl (Nat.le_refl _) (Nat.le_refl _) (fd e5 e13 c34) rfl rfl (fun U hU => ?_)
        refine VW.iload (pc' := 68) d_Model_atByLoops_66 rfl rfl ?_
        refine VW.if_eq (tgt := 111) (pc' := 71) d_Model_atByLoops_68 rfl rfl (fun c68 => absurd c68 (by decide)) (fun _ => ?_)
        refine VW.aload_n (pc' := 72) d_Model_atByLoops_71 rfl rfl ?_
        refine VW.gI (ci := 11) (T := T11) (N := 94) (k := 75) (k' := 75) (pc' := 75) d_Model_atByLoops_72 rfl lk_Model_440 in11 rfl rfl rfl rfl (hM.k rfl) (by first | exact hU.1.2.2.2.2 | exact hU.1.1 | exact hU.1.2.1 | exact (up2_o _ _ _ _ (by decide)).trans hU.1.2.1 | exact up2_o _ _ _ _ (by decide) | rfl) ?_
        refine VW.if_ne (tgt := 111) (pc' := 78) d_Model_atByLoops_75 rfl rfl (fun c75 => ?_) (fun c75 => ?_)
        · try have e75 := bIn c75
          refine VW.iconst (pc' := 112) d_Model_atByLoops_111 rfl (by decide) ?_
          refine VW.goto (pc' := 116) d_Model_atByLoops_112 rfl ?_
          refine VW.istore (pc' := 118) d_Model_atByLoops_116 rfl rfl ?_
          refine VW.aload_n (pc' := 119) d_Model_atByLoops_118 rfl rfl ?_
          refine VW.iload (pc' := 121) d_Model_atByLoops_119 rfl rfl ?_
          refine VW.if_eq (tgt := 129) (pc' := 124) d_Model_atByLoops_121 rfl rfl (fun c121 => absurd c121 (by decide)) (fun _ => ?_)
          refine VW.iload (pc' := 126) d_Model_atByLoops_124 rfl rfl ?_
          refine VW.if_ne (tgt := 133) (pc' := 129) d_Model_atByLoops_126 rfl rfl (fun _ => ?_) (fun c126 => absurd c126 (by decide))
          refine VW.iload (pc' := 135) d_Model_atByLoops_133 rfl rfl ?_
          refine VW.if_ne (tgt := 142) (pc' := 138) d_Model_atByLoops_135 rfl rfl (fun _ => ?_) (fun c135 => absurd c135 (by decide))
          refine VW.aload_n (pc' := 143) d_Model_atByLoops_142 rfl rfl ?_
          refine VW.gI (ci := 11) (T := T11) (N := 94) (k := 75) (k' := 75) (pc' := 146) d_Model_atByLoops_143 rfl lk_Model_440 in11 rfl rfl rfl rfl (hM.k rfl) (by first | exact hU.1.2.2.2.2 | exact hU.1.1 | exact hU.1.2.1 | exact (up2_o _ _ _ _ (by decide)).trans hU.1.2.1 | exact up2_o _ _ _ _ (by decide) | rfl) ?_
          refine VW.if_eq (tgt := 153) (pc' := 149) d_Model_atByLoops_146 rfl rfl (fun c146 => ?_) (fun c146 => ?_)
          · try have e146 := bIe c146
            refine VW.iconst (pc' := 154) d_Model_atByLoops_153 rfl (by decide) ?_
            refine VW.cV (ci := 11) (T := T11) (N := 94) (pc' := 157) d_Model_atByLoops_154 rfl mv_Model_fails lk_Model_254 rfl (hM.k rfl) rfl rfl rfl (Nat.le_refl _) (Nat.le_refl _) (sp_Model_fails hM) rfl rfl ?_
            refine VW.if_eq (tgt := 162) (pc' := 160) d_Model_atByLoops_157 rfl rfl (fun c157 => ?_) (fun c157 => ?_)
            · try have e157 := bIe c157
              refine VW.pick [0, 1, 2, 3, 4] ?_
              first | (exfalso; omega) | exact t162 U e5 e13 c34 hU e75 (bIn c91) (bIn c108)
            · try have e157 := bIn c157
              refine VW.iconst (pc' := 161) d_Model_atByLoops_160 rfl (by decide) ?_
              exact VW.iret d_Model_atByLoops_161 rfl rfl (Nat.zero_le _) (Nat.zero_le _) (by first | (exfalso; omega) | exact exV_mk (r1 (fun z => e5 z.1)) | exact exV_mk (r1 (fun z => e13 z.2)) | exact exV_mk (r2 e5 e13 c34) | exact exV_mk (r3 U e5 e13 c34 hU e75) | exact exV_mk (r4 U e5 e13 c34 hU e75 (fun z => e91 z.1)) | exact exV_mk (r4 U e5 e13 c34 hU e75 (fun z => e108 z.2)))
          · try have e146 := bIn c146
            refine VW.iconst (pc' := 150) d_Model_atByLoops_149 rfl (by decide) ?_
            refine VW.goto (pc' := 154) d_Model_atByLoops_150 rfl ?_
            refine VW.cV (ci := 11) (T := T11) (N := 94) (pc' := 157) d_Model_atByLoops_154 rfl mv_Model_fails lk_Model_254 rfl (hM.k rfl) rfl rfl rfl (Nat.le_refl _) (Nat.le_refl _) (sp_Model_fails hM) rfl rfl ?_
            refine VW.if_eq (tgt := 162) (pc' := 160) d_Model_atByLoops_157 rfl rfl (fun c157 => ?_) (fun c157 => ?_)
            · try have e157 := bIe c157
              refine VW.pick [0, 1, 2, 3, 4] ?_
              first | (exfalso; omega) | exact t162 U e5 e13 c34 hU e75 (bIn c91) (bIn c108)
            · try have e157 := bIn c157
              refine VW.iconst (pc' := 161) d_Model_atByLoops_160 rfl (by decide) ?_
              exact VW.iret d_Model_atByLoops_161 rfl rfl (Nat.zero_le _) (Nat.zero_le _) (by first | (exfalso; omega) | exact exV_mk (r1 (fun z => e5 z.1)) | exact exV_mk (r1 (fun z => e13 z.2)) | exact exV_mk (r2 e5 e13 c34) | exact exV_mk (r3 U e5 e13 c34 hU e75) | exact exV_mk (r4 U e5 e13 c34 hU e75 (fun z => e91 z.1)) | exact exV_mk (r4 U e5 e13 c34 hU e75 (fun z => e108 z.2)))
        · try have e75 := bIe c75
          refine VW.iload_n (pc' := 79) d_Model_atByLoops_78 rfl rfl ?_
          refine VW.iconst (pc' := 80) d_Model_atByLoops_79 rfl (by decide) ?_
          refine VW.aload_n (pc' := 81) d_Model_atByLoops_80 rfl rfl ?_
          refine VW.gP (ci := 11) (T := T11) (N := 94) (k := 73) (k' := 73) (pc' := 84) d_Model_atByLoops_81 rfl lk_Model_184 in11 rfl rfl rfl rfl (hM.k rfl) (hM.p (r := some 273) 73 rfl rfl) ?_
          refine VW.iconst (pc' := 85) d_Model_atByLoops_84 rfl (by decide) ?_
          refine VW.ild (pc' := 86) d_Model_atByLoops_85 rfl (hM.k rfl) (by omega) (by omega) (by first | exact hU.1.2.2.2.2 | exact hU.1.1 | exact hU.1.2.1 | exact (up2_o _ _ _ _ (by decide)).trans hU.1.2.1 | exact up2_o _ _ _ _ (by decide) | rfl) ?_
          refine VW.iconst (pc' := 87) d_Model_atByLoops_86 rfl (by decide) ?_
          refine VW.isub (pc' := 88) d_Model_atByLoops_87 rfl (by omega) ?_
          refine VW.cS (pc' := 91) d_Model_atByLoops_88 rfl ms_Model_isIn lk_Model_235 rfl rfl rfl (Nat.le_refl _) (Nat.le_refl _) (sp_Model_isIn) rfl rfl ?_
          refine VW.if_eq (tgt := 115) (pc' := 94) d_Model_atByLoops_91 rfl rfl (fun c91 => ?_) (fun c91 => ?_)
          · try have e91 := bIe c91
            refine VW.iconst (pc' := 116) d_Model_atByLoops_115 rfl (by decide) ?_
            refine VW.istore (pc' := 118) d_Model_atByLoops_116 rfl rfl ?_
            refine VW.aload_n (pc' := 119) d_Model_atByLoops_118 rfl rfl ?_
            refine VW.iload (pc' := 121) d_Model_atByLoops_119 rfl rfl ?_
            refine VW.if_eq (tgt := 129) (pc' := 124) d_Model_atByLoops_121 rfl rfl (fun c121 => absurd c121 (by decide)) (fun _ => ?_)
            refine VW.iload (pc' := 126) d_Model_atByLoops_124 rfl rfl ?_
            refine VW.if_ne (tgt := 133) (pc' := 129) d_Model_atByLoops_126 rfl rfl (fun c126 => absurd c126 (by decide)) (fun _ => ?_)
            refine VW.iconst (pc' := 130) d_Model_atByLoops_129 rfl (by decide) ?_
            refine VW.goto (pc' := 154) d_Model_atByLoops_130 rfl ?_
            refine VW.cV (ci := 11) (T := T11) (N := 94) (pc' := 157) d_Model_atByLoops_154 rfl mv_Model_fails lk_Model_254 rfl (hM.k rfl) rfl rfl rfl (Nat.le_refl _) (Nat.le_refl _) (sp_Model_fails hM) rfl rfl ?_
            refine VW.if_eq (tgt := 162) (pc' := 160) d_Model_atByLoops_157 rfl rfl (fun c157 => ?_) (fun c157 => ?_)
            · try have e157 := bIe c157
              refine VW.pick [0, 1, 2, 3, 4] ?_
              first | (exfalso; omega) | exact t162 U e5 e13 c34 hU e75 (bIn c91) (bIn c108)
            · try have e157 := bIn c157
              refine VW.iconst (pc' := 161) d_Model_atByLoops_160 rfl (by decide) ?_
              exact VW.iret d_Model_atByLoops_161 rfl rfl (Nat.zero_le _) (Nat.zero_le _) (by first | (exfalso; omega) | exact exV_mk (r1 (fun z => e5 z.1)) | exact exV_mk (r1 (fun z => e13 z.2)) | exact exV_mk (r2 e5 e13 c34) | exact exV_mk (r3 U e5 e13 c34 hU e75) | exact exV_mk (r4 U e5 e13 c34 hU e75 (fun z => e91 z.1)) | exact exV_mk (r4 U e5 e13 c34 hU e75 (fun z => e108 z.2)))
          · try have e91 := bIn c91
            refine VW.iload (pc' := 96) d_Model_atByLoops_94 rfl rfl ?_
            refine VW.iconst (pc' := 97) d_Model_atByLoops_96 rfl (by decide) ?_
            refine VW.aload_n (pc' := 98) d_Model_atByLoops_97 rfl rfl ?_
            refine VW.gP (ci := 11) (T := T11) (N := 94) (k := 74) (k' := 74) (pc' := 101) d_Model_atByLoops_98 rfl lk_Model_187 in11 rfl rfl rfl rfl (hM.k rfl) (hM.p (r := some 274) 74 rfl rfl) ?_
            refine VW.iconst (pc' := 102) d_Model_atByLoops_101 rfl (by decide) ?_
            refine VW.ild (pc' := 103) d_Model_atByLoops_102 rfl (hM.k rfl) (by omega) (by omega) (by first | exact hU.1.2.2.2.2 | exact hU.1.1 | exact hU.1.2.1 | exact (up2_o _ _ _ _ (by decide)).trans hU.1.2.1 | exact up2_o _ _ _ _ (by decide) | rfl) ?_
            refine VW.iconst (pc' := 104) d_Model_atByLoops_103 rfl (by decide) ?_
            refine VW.isub (pc' := 105) d_Model_atByLoops_104 rfl (by omega) ?_
            refine VW.cS (pc' := 108) d_Model_atByLoops_105 rfl ms_Model_isIn lk_Model_235 rfl rfl rfl (Nat.le_refl _) (Nat.le_refl _) (sp_Model_isIn) rfl rfl ?_
            refine VW.if_eq (tgt := 115) (pc' := 111) d_Model_atByLoops_108 rfl rfl (fun c108 => ?_) (fun c108 => ?_)
            · try have e108 := bIe c108
              refine VW.iconst (pc' := 116) d_Model_atByLoops_115 rfl (by decide) ?_
              refine VW.istore (pc' := 118) d_Model_atByLoops_116 rfl rfl ?_
              refine VW.aload_n (pc' := 119) d_Model_atByLoops_118 rfl rfl ?_
              refine VW.iload (pc' := 121) d_Model_atByLoops_119 rfl rfl ?_
              refine VW.if_eq (tgt := 129) (pc' := 124) d_Model_atByLoops_121 rfl rfl (fun c121 => absurd c121 (by decide)) (fun _ => ?_)
              refine VW.iload (pc' := 126) d_Model_atByLoops_124 rfl rfl ?_
              refine VW.if_ne (tgt := 133) (pc' := 129) d_Model_atByLoops_126 rfl rfl (fun c126 => absurd c126 (by decide)) (fun _ => ?_)
              refine VW.iconst (pc' := 130) d_Model_atByLoops_129 rfl (by decide) ?_
              refine VW.goto (pc' := 154) d_Model_atByLoops_130 rfl ?_
              refine VW.cV (ci := 11) (T := T11) (N := 94) (pc' := 157) d_Model_atByLoops_154 rfl mv_Model_fails lk_Model_254 rfl (hM.k rfl) rfl rfl rfl (Nat.le_refl _) (Nat.le_refl _) (sp_Model_fails hM) rfl rfl ?_
              refine VW.if_eq (tgt := 162) (pc' := 160) d_Model_atByLoops_157 rfl rfl (fun c157 => ?_) (fun c157 => ?_)
              · try have e157 := bIe c157
                refine VW.pick [0, 1, 2, 3, 4] ?_
                first | (exfalso; omega) | exact t162 U e5 e13 c34 hU e75 (bIn c91) (bIn c108)
              · try have e157 := bIn c157
                refine VW.iconst (pc' := 161) d_Model_atByLoops_160 rfl (by decide) ?_
                exact VW.iret d_Model_atByLoops_161 rfl rfl (Nat.zero_le _) (Nat.zero_le _) (by first | (exfalso; omega) | exact exV_mk (r1 (fun z => e5 z.1)) | exact exV_mk (r1 (fun z => e13 z.2)) | exact exV_mk (r2 e5 e13 c34) | exact exV_mk (r3 U e5 e13 c34 hU e75) | exact exV_mk (r4 U e5 e13 c34 hU e75 (fun z => e91 z.1)) | exact exV_mk (r4 U e5 e13 c34 hU e75 (fun z => e108 z.2)))
            · try have e108 := bIn c108
              refine VW.iconst (pc' := 112) d_Model_atByLoops_111 rfl (by decide) ?_
              refine VW.goto (pc' := 116) d_Model_atByLoops_112 rfl ?_
              refine VW.istore (pc' := 118) d_Model_atByLoops_116 rfl rfl ?_
              refine VW.aload_n (pc' := 119) d_Model_atByLoops_118 rfl rfl ?_
              refine VW.iload (pc' := 121) d_Model_atByLoops_119 rfl rfl ?_
              refine VW.if_eq (tgt := 129) (pc' := 124) d_Model_atByLoops_121 rfl rfl (fun c121 => absurd c121 (by decide)) (fun _ => ?_)
              refine VW.iload (pc' := 126) d_Model_atByLoops_124 rfl rfl ?_
              refine VW.if_ne (tgt := 133) (pc' := 129) d_Model_atByLoops_126 rfl rfl (fun _ => ?_) (fun c126 => absurd c126 (by decide))
              refine VW.iload (pc' := 135) d_Model_atByLoops_133 rfl rfl ?_
              refine VW.if_ne (tgt := 142) (pc' := 138) d_Model_atByLoops_135 rfl rfl (fun _ => ?_) (fun c135 => absurd c135 (by decide))
              refine VW.aload_n (pc' := 143) d_Model_atByLoops_142 rfl rfl ?_
              refine VW.gI (ci := 11) (T := T11) (N := 94) (k := 75) (k' := 75) (pc' := 146) d_Model_atByLoops_143 rfl lk_Model_440 in11 rfl rfl rfl rfl (hM.k rfl) (by first | exact hU.1.2.2.2.2 | exact hU.1.1 | exact hU.1.2.1 | exact (up2_o _ _ _ _ (by decide)).trans hU.1.2.1 | exact up2_o _ _ _ _ (by decide) | rfl) ?_
              refine VW.if_eq (tgt := 153) (pc' := 149) d_Model_atByLoops_146 rfl rfl (fun c146 => ?_) (fun c146 => ?_)
              · try have e146 := bIe c146
                refine VW.iconst (pc' := 154) d_Model_atByLoops_153 rfl (by decide) ?_
                refine VW.cV (ci := 11) (T := T11) (N := 94) (pc' := 157) d_Model_atByLoops_154 rfl mv_Model_fails lk_Model_254 rfl (hM.k rfl) rfl rfl rfl (Nat.le_refl _) (Nat.le_refl _) (sp_Model_fails hM) rfl rfl ?_
                refine VW.if_eq (tgt := 162) (pc' := 160) d_Model_atByLoops_157 rfl rfl (fun c157 => ?_) (fun c157 => ?_)
                · try have e157 := bIe c157
                  refine VW.pick [0, 1, 2, 3, 4] ?_
                  first | (exfalso; omega) | exact t162 U e5 e13 c34 hU e75 (bIn c91) (bIn c108)
                · try have e157 := bIn c157
                  refine VW.iconst (pc' := 161) d_Model_atByLoops_160 rfl (by decide) ?_
                  exact VW.iret d_Model_atByLoops_161 rfl rfl (Nat.zero_le _) (Nat.zero_le _) (by first | (exfalso; omega) | exact exV_mk (r1 (fun z => e5 z.1)) | exact exV_mk (r1 (fun z => e13 z.2)) | exact exV_mk (r2 e5 e13 c34) | exact exV_mk (r3 U e5 e13 c34 hU e75) | exact exV_mk (r4 U e5 e13 c34 hU e75 (fun z => e91 z.1)) | exact exV_mk (r4 U e5 e13 c34 hU e75 (fun z => e108 z.2)))
              · try have e146 := bIn c146
                refine VW.iconst (pc' := 150) d_Model_atByLoops_149 rfl (by decide) ?_
                refine VW.goto (pc' := 154) d_Model_atByLoops_150 rfl ?_
                refine VW.cV (ci := 11) (T := T11) (N := 94) (pc' := 157) d_Model_atByLoops_154 rfl mv_Model_fails lk_Model_254 rfl (hM.k rfl) rfl rfl rfl (Nat.le_refl _) (Nat.le_refl _) (sp_Model_fails hM) rfl rfl ?_
                refine VW.if_eq (tgt := 162) (pc' := 160) d_Model_atByLoops_157 rfl rfl (fun c157 => ?_) (fun c157 => ?_)
                · try have e157 := bIe c157
                  refine VW.pick [0, 1, 2, 3, 4] ?_
                  first | (exfalso; omega) | exact t162 U e5 e13 c34 hU e75 (bIn c91) (bIn c108)
                · try have e157 := bIn c157
                  refine VW.iconst (pc' := 161) d_Model_atByLoops_160 rfl (by decide) ?_
                  exact VW.iret d_Model_atByLoops_161 rfl rfl (Nat.zero_le _) (Nat.zero_le _) (by first | (exfalso; omega) | exact exV_mk (r1 (fun z => e5 z.1)) | exact exV_mk (r1 (fun z => e13 z.2)) | exact exV_mk (r2 e5 e13 c34) | exact exV_mk (r3 U e5 e13 c34 hU e75) | exact exV_mk (r4 U e5 e13 c34 hU e75 (fun z => e91 z.1)) | exact exV_mk (r4 U e5 e13 c34 hU e75 (fun z => e108 z.2)))
def VrP (I : IT) (i : Int) (n w : Nat) (L : List (List Int)) (v : Int) (I' : IT) : Prop := (¬ (0 ≤ i ∧ i < I 100 68) ∧ v = 0 ∧ I' = up2 I 100 93 1) ∨ ((0 ≤ i ∧ i < I 100 68) ∧ FnR (up2 I 100 93 0) I' 4 0 (I 269 i) n w L ∧ v = L.length)
def VdP (I : IT) (i a c : Int) (n w : Nat) (L : List (List Int)) (v : Int) (I' : IT) : Prop := (¬ (0 ≤ i ∧ i < I 100 68) ∧ v = 0 ∧ I' = up2 I 100 93 1) ∨ ((0 ≤ i ∧ i < I 100 68) ∧ ∃ U, FnR I U 4 0 (I 269 i) n w L ∧ ((¬ ((0 ≤ a ∧ a ≤ (L.length : Int) - 1) ∧ (0 ≤ c ∧ c ≤ (w : Int) - 1)) ∧ v = 0 ∧ I' = up2 U 100 93 1) ∨ (((0 ≤ a ∧ a ≤ (L.length : Int) - 1) ∧ (0 ≤ c ∧ c ≤ (w : Int) - 1)) ∧ v = U 270 ((w : Int) * a + c) ∧ I' = up2 U 100 93 0)))
theorem sp_Model_viewRows {i : Int} {n w : Nat} {L : List (List Int)} (hM : MW K P) (hb : MB I) (hv : 0 ≤ I 100 68 ∧ I 100 68 ≤ 6) (hq : (0 ≤ i ∧ i < I 100 68) → 0 ≤ (I 269 i) ∧ (I 269 i) < 20) (hf : (0 ≤ i ∧ i < I 100 68) → FnOK (up2 I 100 93 0) 4 0 (I 269 i) n w L) : Sp m_Model_viewRows false (rmv 4 99) (exV K P J (VrP I i n w L)) K P J I [vR (some 100), vI i] := by
  refine Sp.ofV (by decide) (Or.inr rfl) rfl ?_
  have hbS : MB (up2 I 100 93 0) := hb.u (by decide) (by decide)
  have fd : (0 ≤ i ∧ i < I 100 68) → Sp m_Model_finds false (rmv 3 75) (exU K P J (.inl none) (fun U => FnR (up2 I 100 93 0) U 4 0 (I 269 i) n w L)) K P J (up2 I 100 93 0) [vR (some 100), vI (I 269 i), vI 4, vI 0] := fun h => sp_Model_finds hM hbS (hq h) (by omega) (hf h)
  have r1 : ¬ (0 ≤ i ∧ i < I 100 68) → VrP I i n w L 0 (up2 I 100 93 1) := fun z => Or.inl ⟨z, rfl, rfl⟩
  have r2 : ∀ U, (0 ≤ i ∧ i < I 100 68) → FnR (up2 I 100 93 0) U 4 0 (I 269 i) n w L → VrP I i n w L L.length U := fun U z h => Or.inr ⟨z, h, rfl⟩
  clear hf
  have t22 : (0 ≤ i ∧ i < I 100 68) → VW m_Model_viewRows false (rmv 4 99) (exV K P J (VrP I i n w L)) K P J (up2 I 100 93 0) 0 0 22 [(0, vR (some 100)), (1, vI i)] [] := by
    intro z
    have fd1 := fd z
    clear r1 fd
    refine VW.aload_n (pc' := 23) d_Model_viewRows_22 rfl rfl ?_
    refine VW.aload_n (pc' := 24) d_Model_viewRows_23 rfl rfl ?_
    refine VW.gP (ci := 11) (T := T11) (N := 94) (k := 69) (k' := 69) (pc' := 27) d_Model_viewRows_24 rfl lk_Model_174 in11 rfl rfl rfl rfl (hM.k rfl) (hM.p (r := some 269) 69 rfl rfl) ?_
    refine VW.iload_n (pc' := 28) d_Model_viewRows_27 rfl rfl ?_
    refine VW.ild (pc' := 29) d_Model_viewRows_28 rfl (hM.k rfl) (by omega) (by omega) (by first | exact hU.1.1 | exact up2_o _ _ _ _ (by decide) | rfl) ?_
    refine VW.iconst (pc' := 30) d_Model_viewRows_29 rfl (by decide) ?_
    refine VW.iconst (pc' := 31) d_Model_viewRows_30 rfl (by decide) ?_
    refine VW.cVu (ci := 11) (T := T11) (N := 94) (pc' := 34) d_Model_viewRows_31 rfl mv_Model_finds lk_Model_489 rfl (hM.k rfl) rfl rfl rfl (Nat.le_refl _) (Nat.le_refl _) (fd1) rfl rfl (fun U hU => ?_)
    refine VW.aload_n (pc' := 35) d_Model_viewRows_34 rfl rfl ?_
    refine VW.gP (ci := 11) (T := T11) (N := 94) (k := 73) (k' := 73) (pc' := 38) d_Model_viewRows_35 rfl lk_Model_184 in11 rfl rfl rfl rfl (hM.k rfl) (hM.p (r := some 273) 73 rfl rfl) ?_
    refine VW.iconst (pc' := 39) d_Model_viewRows_38 rfl (by decide) ?_
    refine VW.ild (pc' := 40) d_Model_viewRows_39 rfl (hM.k rfl) (by omega) (by omega) (by first | exact hU.1.1 | exact up2_o _ _ _ _ (by decide) | rfl) ?_
    exact VW.iret d_Model_viewRows_40 rfl rfl (Nat.zero_le _) (Nat.zero_le _) (exV_mk (r2 U z hU))
  refine VW.aload_n (pc' := 1) d_Model_viewRows_0 rfl rfl ?_
  refine VW.aload_n (pc' := 2) d_Model_viewRows_1 rfl rfl ?_
  refine VW.iload_n (pc' := 3) d_Model_viewRows_2 rfl rfl ?_
  refine VW.cV (ci := 11) (T := T11) (N := 94) (pc' := 6) d_Model_viewRows_3 rfl mv_Model_isView lk_Model_563 rfl (hM.k rfl) rfl rfl rfl (Nat.le_refl _) (Nat.le_refl _) (sp_Model_isView hM hv.1) rfl rfl ?_
  refine VW.if_eq (tgt := 13) (pc' := 9) d_Model_viewRows_6 rfl rfl (fun c6 => ?_) (fun c6 => ?_)
  · try have e6 := bIe c6
    refine VW.iconst (pc' := 14) d_Model_viewRows_13 rfl (by decide) ?_
    refine VW.cV (ci := 11) (T := T11) (N := 94) (pc' := 17) d_Model_viewRows_14 rfl mv_Model_fails lk_Model_254 rfl (hM.k rfl) rfl rfl rfl (Nat.le_refl _) (Nat.le_refl _) (sp_Model_fails hM) rfl rfl ?_
    refine VW.if_eq (tgt := 22) (pc' := 20) d_Model_viewRows_17 rfl rfl (fun c17 => ?_) (fun c17 => ?_)
    · try have e17 := bIe c17
      refine VW.nrm ?_
      first | (exfalso; omega) | exact t22 e6
    · try have e17 := bIn c17
      refine VW.iconst (pc' := 21) d_Model_viewRows_20 rfl (by decide) ?_
      exact VW.iret d_Model_viewRows_21 rfl rfl (Nat.zero_le _) (Nat.zero_le _) (by first | (exfalso; omega) | exact exV_mk (r1 e6))
  · try have e6 := bIn c6
    refine VW.iconst (pc' := 10) d_Model_viewRows_9 rfl (by decide) ?_
    refine VW.goto (pc' := 14) d_Model_viewRows_10 rfl ?_
    refine VW.cV (ci := 11) (T := T11) (N := 94) (pc' := 17) d_Model_viewRows_14 rfl mv_Model_fails lk_Model_254 rfl (hM.k rfl) rfl rfl rfl (Nat.le_refl _) (Nat.le_refl _) (sp_Model_fails hM) rfl rfl ?_
    refine VW.if_eq (tgt := 22) (pc' := 20) d_Model_viewRows_17 rfl rfl (fun c17 => ?_) (fun c17 => ?_)
    · try have e17 := bIe c17
      refine VW.nrm ?_
      first | (exfalso; omega) | exact t22 e6
    · try have e17 := bIn c17
      refine VW.iconst (pc' := 21) d_Model_viewRows_20 rfl (by decide) ?_
      exact VW.iret d_Model_viewRows_21 rfl rfl (Nat.zero_le _) (Nat.zero_le _) (by first | (exfalso; omega) | exact exV_mk (r1 e6))
theorem sp_Model_viewed {i a c : Int} {n w : Nat} {L : List (List Int)} (hM : MW K P) (hb : MB I) (hv : 0 ≤ I 100 68 ∧ I 100 68 ≤ 6) (hq : (0 ≤ i ∧ i < I 100 68) → 0 ≤ (I 269 i) ∧ (I 269 i) < 20) (hf : (0 ≤ i ∧ i < I 100 68) → FnOK I 4 0 (I 269 i) n w L) : Sp m_Model_viewed false (rmv 4 99) (exV K P J (VdP I i a c n w L)) K P J I [vR (some 100), vI i, vI a, vI c] := by
  refine Sp.ofV (by decide) (Or.inr rfl) rfl ?_
  have fd : (0 ≤ i ∧ i < I 100 68) → Sp m_Model_finds false (rmv 3 75) (exU K P J (.inl none) (fun U => FnR I U 4 0 (I 269 i) n w L)) K P J I [vR (some 100), vI (I 269 i), vI 4, vI 0] := fun h => sp_Model_finds hM hb (hq h) (by omega) (hf h)
  have mm : (0 ≤ i ∧ i < I 100 68) → (0 ≤ a ∧ a ≤ (L.length : Int) - 1) → (0 ≤ (w : Int) * a ∧ (w : Int) * a ≤ 10 * 512) ∧ w ≤ 10 ∧ L.length ≤ 512 := fun h1 h2 => by
    have lb := (hf h1).b
    exact ⟨⟨mulNN (by omega) (by omega), mulUp (by omega) (by omega) (by omega) (by omega)⟩, lb⟩
  have lb : (0 ≤ i ∧ i < I 100 68) → w ≤ 10 ∧ L.length ≤ 512 := fun h => (hf h).b
  have r1 : ¬ (0 ≤ i ∧ i < I 100 68) → VdP I i a c n w L 0 (up2 I 100 93 1) := fun z => Or.inl ⟨z, rfl, rfl⟩
  have r2 : ∀ U, (0 ≤ i ∧ i < I 100 68) → FnR I U 4 0 (I 269 i) n w L → ¬ ((0 ≤ a ∧ a ≤ (L.length : Int) - 1) ∧ (0 ≤ c ∧ c ≤ (w : Int) - 1)) → VdP I i a c n w L 0 (up2 U 100 93 1) := fun U z h z2 => Or.inr ⟨z, U, h, Or.inl ⟨z2, rfl, rfl⟩⟩
  have r3 : ∀ U, (0 ≤ i ∧ i < I 100 68) → FnR I U 4 0 (I 269 i) n w L → (0 ≤ a ∧ a ≤ (L.length : Int) - 1) → (0 ≤ c ∧ c ≤ (w : Int) - 1) → VdP I i a c n w L (U 270 ((w : Int) * a + c)) (up2 U 100 93 0) := fun U z h z2 z3 => Or.inr ⟨z, U, h, Or.inr ⟨⟨z2, z3⟩, rfl, rfl⟩⟩
  have t89 : ∀ U, (0 ≤ i ∧ i < I 100 68) → FnR I U 4 0 (I 269 i) n w L → (0 ≤ a ∧ a ≤ (L.length : Int) - 1) → (0 ≤ c ∧ c ≤ (w : Int) - 1) → VW m_Model_viewed false (rmv 4 99) (exV K P J (VdP I i a c n w L)) K P J (up2 U 100 93 0) 0 0 89 [(0, vR (some 100)), (1, vI i), (2, vI a), (3, vI c)] [] := by
    intro U z hU x91 x108
    have m1 := mm z x91
    have fin := r3 U z hU x91 x108
    clear r1 r2 r3 fd hf
    refine VW.aload_n (pc' := 90) d_Model_viewed_89 rfl rfl ?_
    refine VW.gP (ci := 11) (T := T11) (N := 94) (k := 70) (k' := 70) (pc' := 93) d_Model_viewed_90 rfl lk_Model_178 in11 rfl rfl rfl rfl (hM.k rfl) (hM.p (r := some 270) 70 rfl rfl) ?_
    refine VW.aload_n (pc' := 94) d_Model_viewed_93 rfl rfl ?_
    refine VW.gP (ci := 11) (T := T11) (N := 94) (k := 74) (k' := 74) (pc' := 97) d_Model_viewed_94 rfl lk_Model_187 in11 rfl rfl rfl rfl (hM.k rfl) (hM.p (r := some 274) 74 rfl rfl) ?_
    refine VW.iconst (pc' := 98) d_Model_viewed_97 rfl (by decide) ?_
    refine VW.ild (pc' := 99) d_Model_viewed_98 rfl (hM.k rfl) (by omega) (by omega) (by first | exact hU.1.2.2.2.2 | exact hU.1.1 | exact hU.1.2.1 | exact (up2_o _ _ _ _ (by decide)).trans hU.1.2.1 | exact up2_o _ _ _ _ (by decide) | rfl) ?_
    refine VW.iload_n (pc' := 100) d_Model_viewed_99 rfl rfl ?_
    refine VW.imul (pc' := 101) d_Model_viewed_100 rfl (by omega) ?_
    refine VW.iload_n (pc' := 102) d_Model_viewed_101 rfl rfl ?_
    refine VW.iadd (pc' := 103) d_Model_viewed_102 rfl (by omega) ?_
    refine VW.ild (pc' := 104) d_Model_viewed_103 rfl (hM.k rfl) (by omega) (by omega) (by first | exact hU.1.2.2.2.2 | exact hU.1.1 | exact hU.1.2.1 | exact (up2_o _ _ _ _ (by decide)).trans hU.1.2.1 | exact up2_o _ _ _ _ (by decide) | rfl) ?_
    exact VW.iret d_Model_viewed_104 rfl rfl (Nat.zero_le _) (Nat.zero_le _) (exV_mk fin)
  clear hf
  refine VW.aload_n (pc' := 1) d_Model_viewed_0 rfl rfl ?_
  refine VW.iload_n (pc' := 2) d_Model_viewed_1 rfl rfl ?_
  refine VW.cV (ci := 11) (T := T11) (N := 94) (pc' := 5) d_Model_viewed_2 rfl mv_Model_isView lk_Model_563 rfl (hM.k rfl) rfl rfl rfl (Nat.le_refl _) (Nat.le_refl _) (sp_Model_isView hM hv.1) rfl rfl ?_
  refine VW.istore (pc' := 7) d_Model_viewed_5 rfl rfl ?_
  refine VW.iload (pc' := 9) d_Model_viewed_7 rfl rfl ?_
  refine VW.if_eq (tgt := 24) (pc' := 12) d_Model_viewed_9 rfl rfl (fun c9 => ?_) (fun c9 => ?_)
  · try have e9 := bIe c9
    refine VW.iload (pc' := 26) d_Model_viewed_24 rfl rfl ?_
    refine VW.if_eq (tgt := 65) (pc' := 29) d_Model_viewed_26 rfl rfl (fun c26 => ?_) (fun c26 => ?_)
    · try have e26 := bIe c26
      refine VW.iconst (pc' := 66) d_Model_viewed_65 rfl (by decide) ?_
      refine VW.istore (pc' := 68) d_Model_viewed_66 rfl rfl ?_
      refine VW.aload_n (pc' := 69) d_Model_viewed_68 rfl rfl ?_
      refine VW.iload (pc' := 71) d_Model_viewed_69 rfl rfl ?_
      refine VW.if_eq (tgt := 78) (pc' := 74) d_Model_viewed_71 rfl rfl (fun _ => ?_) (fun c71 => absurd c71 (by decide))
      refine VW.iconst (pc' := 79) d_Model_viewed_78 rfl (by decide) ?_
      refine VW.cV (ci := 11) (T := T11) (N := 94) (pc' := 82) d_Model_viewed_79 rfl mv_Model_fails lk_Model_254 rfl (hM.k rfl) rfl rfl rfl (Nat.le_refl _) (Nat.le_refl _) (sp_Model_fails hM) rfl rfl ?_
      refine VW.if_eq (tgt := 89) (pc' := 85) d_Model_viewed_82 rfl rfl (fun c82 => ?_) (fun c82 => ?_)
      · try have e82 := bIe c82
        refine VW.pick [0, 1, 2, 3] ?_
        first | (exfalso; omega) | exact t89 U x9 hU (bIn c42) (bIn c58)
      · try have e82 := bIn c82
        refine VW.iconst (pc' := 86) d_Model_viewed_85 rfl (by decide) ?_
        refine VW.goto (pc' := 104) d_Model_viewed_86 rfl ?_
        exact VW.iret d_Model_viewed_104 rfl rfl (Nat.zero_le _) (Nat.zero_le _) (by first | (exfalso; omega) | exact exV_mk (r1 (bIe c9)) | exact exV_mk (r2 U x9 hU (fun z => e42 z.1)) | exact exV_mk (r2 U x9 hU (fun z => e58 z.2)))
    · try have e26 := bIn c26
      refine VW.iload_n (pc' := 30) d_Model_viewed_29 rfl rfl ?_
      refine VW.iconst (pc' := 31) d_Model_viewed_30 rfl (by decide) ?_
      refine VW.aload_n (pc' := 32) d_Model_viewed_31 rfl rfl ?_
      refine VW.gP (ci := 11) (T := T11) (N := 94) (k := 73) (k' := 73) (pc' := 35) d_Model_viewed_32 rfl lk_Model_184 in11 rfl rfl rfl rfl (hM.k rfl) (hM.p (r := some 273) 73 rfl rfl) ?_
      refine VW.iconst (pc' := 36) d_Model_viewed_35 rfl (by decide) ?_
      refine VW.ild (pc' := 37) d_Model_viewed_36 rfl (hM.k rfl) (by omega) (by omega) (by first | exact hU.1.1 | exact hU.1.2.1 | exact up2_o _ _ _ _ (by decide) | rfl) ?_
      refine VW.iconst (pc' := 38) d_Model_viewed_37 rfl (by decide) ?_
      refine VW.isub (pc' := 39) d_Model_viewed_38 rfl (by omega) ?_
      refine VW.cS (pc' := 42) d_Model_viewed_39 rfl ms_Model_isIn lk_Model_235 rfl rfl rfl (Nat.le_refl _) (Nat.le_refl _) (sp_Model_isIn) rfl rfl ?_
      refine VW.if_eq (tgt := 65) (pc' := 45) d_Model_viewed_42 rfl rfl (fun c42 => ?_) (fun c42 => ?_)
      · try have e42 := bIe c42
        refine VW.iconst (pc' := 66) d_Model_viewed_65 rfl (by decide) ?_
        refine VW.istore (pc' := 68) d_Model_viewed_66 rfl rfl ?_
        refine VW.aload_n (pc' := 69) d_Model_viewed_68 rfl rfl ?_
        refine VW.iload (pc' := 71) d_Model_viewed_69 rfl rfl ?_
        refine VW.if_eq (tgt := 78) (pc' := 74) d_Model_viewed_71 rfl rfl (fun _ => ?_) (fun c71 => absurd c71 (by decide))
        refine VW.iconst (pc' := 79) d_Model_viewed_78 rfl (by decide) ?_
        refine VW.cV (ci := 11) (T := T11) (N := 94) (pc' := 82) d_Model_viewed_79 rfl mv_Model_fails lk_Model_254 rfl (hM.k rfl) rfl rfl rfl (Nat.le_refl _) (Nat.le_refl _) (sp_Model_fails hM) rfl rfl ?_
        refine VW.if_eq (tgt := 89) (pc' := 85) d_Model_viewed_82 rfl rfl (fun c82 => ?_) (fun c82 => ?_)
        · try have e82 := bIe c82
          refine VW.pick [0, 1, 2, 3] ?_
          first | (exfalso; omega) | exact t89 U x9 hU (bIn c42) (bIn c58)
        · try have e82 := bIn c82
          refine VW.iconst (pc' := 86) d_Model_viewed_85 rfl (by decide) ?_
          refine VW.goto (pc' := 104) d_Model_viewed_86 rfl ?_
          exact VW.iret d_Model_viewed_104 rfl rfl (Nat.zero_le _) (Nat.zero_le _) (by first | (exfalso; omega) | exact exV_mk (r1 (bIe c9)) | exact exV_mk (r2 U x9 hU (fun z => e42 z.1)) | exact exV_mk (r2 U x9 hU (fun z => e58 z.2)))
      · try have e42 := bIn c42
        refine VW.iload_n (pc' := 46) d_Model_viewed_45 rfl rfl ?_
        refine VW.iconst (pc' := 47) d_Model_viewed_46 rfl (by decide) ?_
        refine VW.aload_n (pc' := 48) d_Model_viewed_47 rfl rfl ?_
        refine VW.gP (ci := 11) (T := T11) (N := 94) (k := 74) (k' := 74) (pc' := 51) d_Model_viewed_48 rfl lk_Model_187 in11 rfl rfl rfl rfl (hM.k rfl) (hM.p (r := some 274) 74 rfl rfl) ?_
        refine VW.iconst (pc' := 52) d_Model_viewed_51 rfl (by decide) ?_
        refine VW.ild (pc' := 53) d_Model_viewed_52 rfl (hM.k rfl) (by omega) (by omega) (by first | exact hU.1.1 | exact hU.1.2.1 | exact up2_o _ _ _ _ (by decide) | rfl) ?_
        refine VW.iconst (pc' := 54) d_Model_viewed_53 rfl (by decide) ?_
        refine VW.isub (pc' := 55) d_Model_viewed_54 rfl (by omega) ?_
        refine VW.cS (pc' := 58) d_Model_viewed_55 rfl ms_Model_isIn lk_Model_235 rfl rfl rfl (Nat.le_refl _) (Nat.le_refl _) (sp_Model_isIn) rfl rfl ?_
        refine VW.if_eq (tgt := 65) (pc' := 61) d_Model_viewed_58 rfl rfl (fun c58 => ?_) (fun c58 => ?_)
        · try have e58 := bIe c58
          refine VW.iconst (pc' := 66) d_Model_viewed_65 rfl (by decide) ?_
          refine VW.istore (pc' := 68) d_Model_viewed_66 rfl rfl ?_
          refine VW.aload_n (pc' := 69) d_Model_viewed_68 rfl rfl ?_
          refine VW.iload (pc' := 71) d_Model_viewed_69 rfl rfl ?_
          refine VW.if_eq (tgt := 78) (pc' := 74) d_Model_viewed_71 rfl rfl (fun _ => ?_) (fun c71 => absurd c71 (by decide))
          refine VW.iconst (pc' := 79) d_Model_viewed_78 rfl (by decide) ?_
          refine VW.cV (ci := 11) (T := T11) (N := 94) (pc' := 82) d_Model_viewed_79 rfl mv_Model_fails lk_Model_254 rfl (hM.k rfl) rfl rfl rfl (Nat.le_refl _) (Nat.le_refl _) (sp_Model_fails hM) rfl rfl ?_
          refine VW.if_eq (tgt := 89) (pc' := 85) d_Model_viewed_82 rfl rfl (fun c82 => ?_) (fun c82 => ?_)
          · try have e82 := bIe c82
            refine VW.pick [0, 1, 2, 3] ?_
            first | (exfalso; omega) | exact t89 U x9 hU (bIn c42) (bIn c58)
          · try have e82 := bIn c82
            refine VW.iconst (pc' := 86) d_Model_viewed_85 rfl (by decide) ?_
            refine VW.goto (pc' := 104) d_Model_viewed_86 rfl ?_
            exact VW.iret d_Model_viewed_104 rfl rfl (Nat.zero_le _) (Nat.zero_le _) (by first | (exfalso; omega) | exact exV_mk (r1 (bIe c9)) | exact exV_mk (r2 U x9 hU (fun z => e42 z.1)) | exact exV_mk (r2 U x9 hU (fun z => e58 z.2)))
        · try have e58 := bIn c58
          refine VW.iconst (pc' := 62) d_Model_viewed_61 rfl (by decide) ?_
          refine VW.goto (pc' := 66) d_Model_viewed_62 rfl ?_
          refine VW.istore (pc' := 68) d_Model_viewed_66 rfl rfl ?_
          refine VW.aload_n (pc' := 69) d_Model_viewed_68 rfl rfl ?_
          refine VW.iload (pc' := 71) d_Model_viewed_69 rfl rfl ?_
          refine VW.if_eq (tgt := 78) (pc' := 74) d_Model_viewed_71 rfl rfl (fun c71 => absurd c71 (by decide)) (fun _ => ?_)
          refine VW.iconst (pc' := 75) d_Model_viewed_74 rfl (by decide) ?_
          refine VW.goto (pc' := 79) d_Model_viewed_75 rfl ?_
          refine VW.cV (ci := 11) (T := T11) (N := 94) (pc' := 82) d_Model_viewed_79 rfl mv_Model_fails lk_Model_254 rfl (hM.k rfl) rfl rfl rfl (Nat.le_refl _) (Nat.le_refl _) (sp_Model_fails hM) rfl rfl ?_
          refine VW.if_eq (tgt := 89) (pc' := 85) d_Model_viewed_82 rfl rfl (fun c82 => ?_) (fun c82 => ?_)
          · try have e82 := bIe c82
            refine VW.pick [0, 1, 2, 3] ?_
            first | (exfalso; omega) | exact t89 U x9 hU (bIn c42) (bIn c58)
          · try have e82 := bIn c82
            refine VW.iconst (pc' := 86) d_Model_viewed_85 rfl (by decide) ?_
            refine VW.goto (pc' := 104) d_Model_viewed_86 rfl ?_
            exact VW.iret d_Model_viewed_104 rfl rfl (Nat.zero_le _) (Nat.zero_le _) (by first | (exfalso; omega) | exact exV_mk (r1 (bIe c9)) | exact exV_mk (r2 U x9 hU (fun z => e42 z.1)) | exact exV_mk (r2 U x9 hU (fun z => e58 z.2)))
  · try have e9 := bIn c9
    have x9 := bIn c9
    have lb1 := lb x9
    refine VW.aload_n (pc' := 13) d_Model_viewed_12 rfl rfl ?_
    refine VW.aload_n (pc' := 14) d_Model_viewed_13 rfl rfl ?_
    refine VW.gP (ci := 11) (T := T11) (N := 94) (k := 69) (k' := 69) (pc' := 17) d_Model_viewed_14 rfl lk_Model_174 in11 rfl rfl rfl rfl (hM.k rfl) (hM.p (r := some 269) 69 rfl rfl) ?_
    refine VW.iload_n (pc' := 18) d_Model_viewed_17 rfl rfl ?_
    refine VW.ild (pc' := 19) d_Model_viewed_18 rfl (hM.k rfl) (by omega) (by omega) (by first | exact hU.1.1 | exact hU.1.2.1 | exact up2_o _ _ _ _ (by decide) | rfl) ?_
    refine VW.iconst (pc' := 20) d_Model_viewed_19 rfl (by decide) ?_
    refine VW.iconst (pc' := 21) d_Model_viewed_20 rfl (by decide) ?_
    refine VW.cVu (ci := 11) (T := T11) (N := 94) (pc' := 24) d_Model_viewed_21 rfl mv_Model_finds lk_Model_489 rfl (hM.k rfl) rfl rfl rfl (Nat.le_refl _) (Nat.le_refl _) (fd e9) rfl rfl (fun U hU => ?_)
    refine VW.iload (pc' := 26) d_Model_viewed_24 rfl rfl ?_
    refine VW.if_eq (tgt := 65) (pc' := 29) d_Model_viewed_26 rfl rfl (fun c26 => ?_) (fun c26 => ?_)
    · try have e26 := bIe c26
      refine VW.iconst (pc' := 66) d_Model_viewed_65 rfl (by decide) ?_
      refine VW.istore (pc' := 68) d_Model_viewed_66 rfl rfl ?_
      refine VW.aload_n (pc' := 69) d_Model_viewed_68 rfl rfl ?_
      refine VW.iload (pc' := 71) d_Model_viewed_69 rfl rfl ?_
      refine VW.if_eq (tgt := 78) (pc' := 74) d_Model_viewed_71 rfl rfl (fun _ => ?_) (fun c71 => absurd c71 (by decide))
      refine VW.iconst (pc' := 79) d_Model_viewed_78 rfl (by decide) ?_
      refine VW.cV (ci := 11) (T := T11) (N := 94) (pc' := 82) d_Model_viewed_79 rfl mv_Model_fails lk_Model_254 rfl (hM.k rfl) rfl rfl rfl (Nat.le_refl _) (Nat.le_refl _) (sp_Model_fails hM) rfl rfl ?_
      refine VW.if_eq (tgt := 89) (pc' := 85) d_Model_viewed_82 rfl rfl (fun c82 => ?_) (fun c82 => ?_)
      · try have e82 := bIe c82
        refine VW.pick [0, 1, 2, 3] ?_
        first | (exfalso; omega) | exact t89 U x9 hU (bIn c42) (bIn c58)
      · try have e82 := bIn c82
        refine VW.iconst (pc' := 86) d_Model_viewed_85 rfl (by decide) ?_
        refine VW.goto (pc' := 104) d_Model_viewed_86 rfl ?_
        exact VW.iret d_Model_viewed_104 rfl rfl (Nat.zero_le _) (Nat.zero_le _) (by first | (exfalso; omega) | exact exV_mk (r1 (bIe c9)) | exact exV_mk (r2 U x9 hU (fun z => e42 z.1)) | exact exV_mk (r2 U x9 hU (fun z => e58 z.2)))
    · try have e26 := bIn c26
      refine VW.iload_n (pc' := 30) d_Model_viewed_29 rfl rfl ?_
      refine VW.iconst (pc' := 31) d_Model_viewed_30 rfl (by decide) ?_
      refine VW.aload_n (pc' := 32) d_Model_viewed_31 rfl rfl ?_
      refine VW.gP (ci := 11) (T := T11) (N := 94) (k := 73) (k' := 73) (pc' := 35) d_Model_viewed_32 rfl lk_Model_184 in11 rfl rfl rfl rfl (hM.k rfl) (hM.p (r := some 273) 73 rfl rfl) ?_
      refine VW.iconst (pc' := 36) d_Model_viewed_35 rfl (by decide) ?_
      refine VW.ild (pc' := 37) d_Model_viewed_36 rfl (hM.k rfl) (by omega) (by omega) (by first | exact hU.1.1 | exact hU.1.2.1 | exact up2_o _ _ _ _ (by decide) | rfl) ?_
      refine VW.iconst (pc' := 38) d_Model_viewed_37 rfl (by decide) ?_
      refine VW.isub (pc' := 39) d_Model_viewed_38 rfl (by omega) ?_
      refine VW.cS (pc' := 42) d_Model_viewed_39 rfl ms_Model_isIn lk_Model_235 rfl rfl rfl (Nat.le_refl _) (Nat.le_refl _) (sp_Model_isIn) rfl rfl ?_
      refine VW.if_eq (tgt := 65) (pc' := 45) d_Model_viewed_42 rfl rfl (fun c42 => ?_) (fun c42 => ?_)
      · try have e42 := bIe c42
        refine VW.iconst (pc' := 66) d_Model_viewed_65 rfl (by decide) ?_
        refine VW.istore (pc' := 68) d_Model_viewed_66 rfl rfl ?_
        refine VW.aload_n (pc' := 69) d_Model_viewed_68 rfl rfl ?_
        refine VW.iload (pc' := 71) d_Model_viewed_69 rfl rfl ?_
        refine VW.if_eq (tgt := 78) (pc' := 74) d_Model_viewed_71 rfl rfl (fun _ => ?_) (fun c71 => absurd c71 (by decide))
        refine VW.iconst (pc' := 79) d_Model_viewed_78 rfl (by decide) ?_
        refine VW.cV (ci := 11) (T := T11) (N := 94) (pc' := 82) d_Model_viewed_79 rfl mv_Model_fails lk_Model_254 rfl (hM.k rfl) rfl rfl rfl (Nat.le_refl _) (Nat.le_refl _) (sp_Model_fails hM) rfl rfl ?_
        refine VW.if_eq (tgt := 89) (pc' := 85) d_Model_viewed_82 rfl rfl (fun c82 => ?_) (fun c82 => ?_)
        · try have e82 := bIe c82
          refine VW.pick [0, 1, 2, 3] ?_
          first | (exfalso; omega) | exact t89 U x9 hU (bIn c42) (bIn c58)
        · try have e82 := bIn c82
          refine VW.iconst (pc' := 86) d_Model_viewed_85 rfl (by decide) ?_
          refine VW.goto (pc' := 104) d_Model_viewed_86 rfl ?_
          exact VW.iret d_Model_viewed_104 rfl rfl (Nat.zero_le _) (Nat.zero_le _) (by first | (exfalso; omega) | exact exV_mk (r1 (bIe c9)) | exact exV_mk (r2 U x9 hU (fun z => e42 z.1)) | exact exV_mk (r2 U x9 hU (fun z => e58 z.2)))
      · try have e42 := bIn c42
        refine VW.iload_n (pc' := 46) d_Model_viewed_45 rfl rfl ?_
        refine VW.iconst (pc' := 47) d_Model_viewed_46 rfl (by decide) ?_
        refine VW.aload_n (pc' := 48) d_Model_viewed_47 rfl rfl ?_
        refine VW.gP (ci := 11) (T := T11) (N := 94) (k := 74) (k' := 74) (pc' := 51) d_Model_viewed_48 rfl lk_Model_187 in11 rfl rfl rfl rfl (hM.k rfl) (hM.p (r := some 274) 74 rfl rfl) ?_
        refine VW.iconst (pc' := 52) d_Model_viewed_51 rfl (by decide) ?_
        refine VW.ild (pc' := 53) d_Model_viewed_52 rfl (hM.k rfl) (by omega) (by omega) (by first | exact hU.1.1 | exact hU.1.2.1 | exact up2_o _ _ _ _ (by decide) | rfl) ?_
        refine VW.iconst (pc' := 54) d_Model_viewed_53 rfl (by decide) ?_
        refine VW.isub (pc' := 55) d_Model_viewed_54 rfl (by omega) ?_
        refine VW.cS (pc' := 58) d_Model_viewed_55 rfl ms_Model_isIn lk_Model_235 rfl rfl rfl (Nat.le_refl _) (Nat.le_refl _) (sp_Model_isIn) rfl rfl ?_
        refine VW.if_eq (tgt := 65) (pc' := 61) d_Model_viewed_58 rfl rfl (fun c58 => ?_) (fun c58 => ?_)
        · try have e58 := bIe c58
          refine VW.iconst (pc' := 66) d_Model_viewed_65 rfl (by decide) ?_
          refine VW.istore (pc' := 68) d_Model_viewed_66 rfl rfl ?_
          refine VW.aload_n (pc' := 69) d_Model_viewed_68 rfl rfl ?_
          refine VW.iload (pc' := 71) d_Model_viewed_69 rfl rfl ?_
          refine VW.if_eq (tgt := 78) (pc' := 74) d_Model_viewed_71 rfl rfl (fun _ => ?_) (fun c71 => absurd c71 (by decide))
          refine VW.iconst (pc' := 79) d_Model_viewed_78 rfl (by decide) ?_
          refine VW.cV (ci := 11) (T := T11) (N := 94) (pc' := 82) d_Model_viewed_79 rfl mv_Model_fails lk_Model_254 rfl (hM.k rfl) rfl rfl rfl (Nat.le_refl _) (Nat.le_refl _) (sp_Model_fails hM) rfl rfl ?_
          refine VW.if_eq (tgt := 89) (pc' := 85) d_Model_viewed_82 rfl rfl (fun c82 => ?_) (fun c82 => ?_)
          · try have e82 := bIe c82
            refine VW.pick [0, 1, 2, 3] ?_
            first | (exfalso; omega) | exact t89 U x9 hU (bIn c42) (bIn c58)
          · try have e82 := bIn c82
            refine VW.iconst (pc' := 86) d_Model_viewed_85 rfl (by decide) ?_
            refine VW.goto (pc' := 104) d_Model_viewed_86 rfl ?_
            exact VW.iret d_Model_viewed_104 rfl rfl (Nat.zero_le _) (Nat.zero_le _) (by first | (exfalso; omega) | exact exV_mk (r1 (bIe c9)) | exact exV_mk (r2 U x9 hU (fun z => e42 z.1)) | exact exV_mk (r2 U x9 hU (fun z => e58 z.2)))
        · try have e58 := bIn c58
          refine VW.iconst (pc' := 62) d_Model_viewed_61 rfl (by decide) ?_
          refine VW.goto (pc' := 66) d_Model_viewed_62 rfl ?_
          refine VW.istore (pc' := 68) d_Model_viewed_66 rfl rfl ?_
          refine VW.aload_n (pc' := 69) d_Model_viewed_68 rfl rfl ?_
          refine VW.iload (pc' := 71) d_Model_viewed_69 rfl rfl ?_
          refine VW.if_eq (tgt := 78) (pc' := 74) d_Model_viewed_71 rfl rfl (fun c71 => absurd c71 (by decide)) (fun _ => ?_)
          refine VW.iconst (pc' := 75) d_Model_viewed_74 rfl (by decide) ?_
          refine VW.goto (pc' := 79) d_Model_viewed_75 rfl ?_
          refine VW.cV (ci := 11) (T := T11) (N := 94) (pc' := 82) d_Model_viewed_79 rfl mv_Model_fails lk_Model_254 rfl (hM.k rfl) rfl rfl rfl (Nat.le_refl _) (Nat.le_refl _) (sp_Model_fails hM) rfl rfl ?_
          refine VW.if_eq (tgt := 89) (pc' := 85) d_Model_viewed_82 rfl rfl (fun c82 => ?_) (fun c82 => ?_)
          · try have e82 := bIe c82
            refine VW.pick [0, 1, 2, 3] ?_
            first | (exfalso; omega) | exact t89 U x9 hU (bIn c42) (bIn c58)
          · try have e82 := bIn c82
            refine VW.iconst (pc' := 86) d_Model_viewed_85 rfl (by decide) ?_
            refine VW.goto (pc' := 104) d_Model_viewed_86 rfl ?_
            exact VW.iret d_Model_viewed_104 rfl rfl (Nat.zero_le _) (Nat.zero_le _) (by first | (exfalso; omega) | exact exV_mk (r1 (bIe c9)) | exact exV_mk (r2 U x9 hU (fun z => e42 z.1)) | exact exV_mk (r2 U x9 hU (fun z => e58 z.2)))
theorem sp_Model_viewAt {i a c : Int} {n w : Nat} {L : List (List Int)} (hM : MW K P) (hb : MB I) (hv : 0 ≤ I 100 68 ∧ I 100 68 ≤ 6) (hq : (0 ≤ i ∧ i < I 100 68) → 0 ≤ (I 269 i) ∧ (I 269 i) < 20) (hf : (0 ≤ i ∧ i < I 100 68) → FnOK I 4 0 (I 269 i) n w L) : Sp m_Model_viewAt false (rmv 5 124) (exV K P J (VdP I i a c n w L)) K P J I [vR (some 100), vI i, vI a, vI c] := by
  refine Sp.ofV (by decide) (Or.inr rfl) rfl ?_
  refine VW.aload_n (pc' := 1) d_Model_viewAt_0 rfl rfl ?_
  refine VW.iload_n (pc' := 2) d_Model_viewAt_1 rfl rfl ?_
  refine VW.iload_n (pc' := 3) d_Model_viewAt_2 rfl rfl ?_
  refine VW.iload_n (pc' := 4) d_Model_viewAt_3 rfl rfl ?_
  refine VW.cVq (ci := 11) (T := T11) (N := 94) (pc' := 7) d_Model_viewAt_4 rfl mv_Model_viewed lk_Model_566 rfl (hM.k rfl) rfl rfl rfl (Nat.le_refl _) (Nat.le_refl _) (sp_Model_viewed hM hb hv hq hf) rfl rfl (fun r K' P' J' I' h => ?_)
  obtain ⟨h1, h2, h3, v, h4, h5⟩ := h
  subst h1 h2 h3
  cases h4
  exact VW.iret d_Model_viewAt_7 rfl rfl (Nat.zero_le _) (Nat.zero_le _) (exV_mk h5)
theorem sp_Model_viewAnew {i a c : Int} {n w : Nat} {L : List (List Int)} (hM : MW K P) (hb : MB I) (hv : 0 ≤ I 100 68 ∧ I 100 68 ≤ 6) (hq : (0 ≤ i ∧ i < I 100 68) → 0 ≤ (I 269 i) ∧ (I 269 i) < 20) (hf : (0 ≤ i ∧ i < I 100 68) → FnOK I 4 0 (I 269 i) n w L) : Sp m_Model_viewAnew false (rmv 5 124) (exV K P J (VdP I i a c n w L)) K P J I [vR (some 100), vI i, vI a, vI c] := by
  refine Sp.ofV (by decide) (Or.inr rfl) rfl ?_
  refine VW.aload_n (pc' := 1) d_Model_viewAnew_0 rfl rfl ?_
  refine VW.iload_n (pc' := 2) d_Model_viewAnew_1 rfl rfl ?_
  refine VW.iload_n (pc' := 3) d_Model_viewAnew_2 rfl rfl ?_
  refine VW.iload_n (pc' := 4) d_Model_viewAnew_3 rfl rfl ?_
  refine VW.cVq (ci := 11) (T := T11) (N := 94) (pc' := 7) d_Model_viewAnew_4 rfl mv_Model_viewed lk_Model_566 rfl (hM.k rfl) rfl rfl rfl (Nat.le_refl _) (Nat.le_refl _) (sp_Model_viewed hM hb hv hq hf) rfl rfl (fun r K' P' J' I' h => ?_)
  obtain ⟨h1, h2, h3, v, h4, h5⟩ := h
  subst h1 h2 h3
  cases h4
  exact VW.iret d_Model_viewAnew_7 rfl rfl (Nat.zero_le _) (Nat.zero_le _) (exV_mk h5)
end
