section
variable {K : KT} {P : PT} {J I : IT}
theorem ex_v {v v' : Int} (h : v = v') : ex K P J I (.inl (some (vI v))) (.inl (some (vI v'))) K P J I := by subst h; exact ex_rf
theorem ex_i {I' : IT} {r : Option AV ⊕ String} (h : I = I') : ex K P J I r r K P J I' := by subst h; exact ex_rf
theorem mfind_rg (I : IT) (s t key : Int) : mfind I s t key = -1 ∨ (0 ≤ mfind I s t key ∧ mfind I s t key < I 214 (6 * s + t)) := by
  unfold mfind
  rcases fs_spec (fun r => I 215 (4 * (64 * (6 * s + t) + r)) = key) (I 214 (6 * s + t)).toNat 0 with ⟨h, -⟩ | ⟨h1, h2, -⟩
  · exact Or.inl h
  · exact Or.inr ⟨h1, by omega⟩
/-- the checks and the reference of a column allow a value -/
def mCheckOk (I : IT) (t c v : Int) : Prop := ∀ j, 4 * t ≤ j → j < 4 * t + I 202 t → (I 203 j = c → cmp3 v (I 204 j) (I 205 j) ≠ 0)
def mRefOk (I : IT) (s t c v : Int) : Prop := I 206 (4 * t + c) = -1 ∨ v = -2147483648 ∨ mfind I s (I 206 (4 * t + c)) v ≠ -1
theorem sp_Model_isAllowed {s t c v : Int} (hM : MW K P) (hb : MB I) (hs : 0 ≤ s ∧ s ≤ 4) (ht : 0 ≤ t ∧ t < 6) (hc : 0 ≤ c ∧ c < 4) : Sp m_Model_isAllowed false (rmv 2 47) (ex K P J I (.inl (some (vI (bI (mCheckOk I t c v ∧ mRefOk I s t c v)))))) K P J I [vR (some 100), vI s, vI t, vI c, vI v] := by
  refine Sp.ofV (by decide) (Or.inr rfl) rfl ?_
  have k0 := hb.chk t
  have t0 := hb.tgt (4 * t + c)
  have fin : ∀ (is : Int), is = bI (mCheckOk I t c v) → VW m_Model_isAllowed false (rmv 2 47) (ex K P J I (.inl (some (vI (bI (mCheckOk I t c v ∧ mRefOk I s t c v)))))) K P J I 0 0 74 [(0, vR (some 100)), (1, vI s), (2, vI t), (3, vI c), (4, vI v), (5, vI is)] [] := by
    intro is hi
    refine VW.aload_n (pc' := 75) d_Model_isAllowed_74 rfl rfl ?_
    refine VW.gP (ci := 11) (T := T11) (N := 94) (k := 6) (k' := 6) (pc' := 78) d_Model_isAllowed_75 rfl lk_Model_25 in11 rfl rfl rfl rfl (hM.k rfl) (hM.p (r := some 206) 6 rfl rfl) ?_
    refine VW.iconst (pc' := 79) d_Model_isAllowed_78 rfl (by decide) ?_
    refine VW.iload_n (pc' := 80) d_Model_isAllowed_79 rfl rfl ?_
    refine VW.imul (pc' := 81) d_Model_isAllowed_80 rfl (by omega) ?_
    refine VW.iload_n (pc' := 82) d_Model_isAllowed_81 rfl rfl ?_
    refine VW.iadd (pc' := 83) d_Model_isAllowed_82 rfl (by omega) ?_
    refine VW.ild (pc' := 84) d_Model_isAllowed_83 rfl (hM.k rfl) (by omega) (by omega) (by first | assumption | (simp [up2] <;> rfl) | rfl) ?_
    refine VW.istore (pc' := 86) d_Model_isAllowed_84 rfl rfl ?_
    refine VW.iload (pc' := 88) d_Model_isAllowed_86 rfl rfl ?_
    refine VW.if_eq (tgt := 121) (pc' := 91) d_Model_isAllowed_88 rfl rfl (fun c88 => ?_) (fun c88 => ?_)
    · try have e88 := bIe c88
      refine VW.iconst (pc' := 122) d_Model_isAllowed_121 rfl (by decide) ?_
      exact VW.iret d_Model_isAllowed_122 rfl rfl (Nat.zero_le _) (Nat.zero_le _) (by first | exact ex_v (bI1 ⟨d, Or.inl c94⟩) | exact ex_v (bI1 ⟨d, Or.inr (Or.inl c101)⟩) | exact ex_v (bI1 ⟨d, Or.inr (Or.inr c114)⟩) | exact ex_v (bI0 (fun z => z.2.elim c94 (fun z => z.elim c101 (fun z => z c114)))) | exact ex_v (bI0 (fun z => bIe (hi.symm.trans c88) z.1)))
    · try have e88 := bIn c88
      have o0 := hb.row (6 * s + I 206 (4 * t + c))
      rw [hi] at c88
      have d := bIn c88
      refine VW.iload (pc' := 93) d_Model_isAllowed_91 rfl rfl ?_
      refine VW.iconst (pc' := 94) d_Model_isAllowed_93 rfl (by decide) ?_
      refine VW.icmp_eq (tgt := 117) (pc' := 97) d_Model_isAllowed_94 rfl rfl (fun c94 => ?_) (fun c94 => ?_)
      · refine VW.iconst (pc' := 118) d_Model_isAllowed_117 rfl (by decide) ?_
        refine VW.goto (pc' := 122) d_Model_isAllowed_118 rfl ?_
        exact VW.iret d_Model_isAllowed_122 rfl rfl (Nat.zero_le _) (Nat.zero_le _) (by first | exact ex_v (bI1 ⟨d, Or.inl c94⟩) | exact ex_v (bI1 ⟨d, Or.inr (Or.inl c101)⟩) | exact ex_v (bI1 ⟨d, Or.inr (Or.inr c114)⟩) | exact ex_v (bI0 (fun z => z.2.elim c94 (fun z => z.elim c101 (fun z => z c114)))) | exact ex_v (bI0 (fun z => bIe (hi.symm.trans c88) z.1)))
      · refine VW.iload (pc' := 99) d_Model_isAllowed_97 rfl rfl ?_
        refine VW.ldc (pc' := 101) (z := -2147483648) d_Model_isAllowed_99 rfl lk_Model_246 (by decide) (by decide) ?_
        refine VW.icmp_eq (tgt := 117) (pc' := 104) d_Model_isAllowed_101 rfl rfl (fun c101 => ?_) (fun c101 => ?_)
        · refine VW.iconst (pc' := 118) d_Model_isAllowed_117 rfl (by decide) ?_
          refine VW.goto (pc' := 122) d_Model_isAllowed_118 rfl ?_
          exact VW.iret d_Model_isAllowed_122 rfl rfl (Nat.zero_le _) (Nat.zero_le _) (by first | exact ex_v (bI1 ⟨d, Or.inl c94⟩) | exact ex_v (bI1 ⟨d, Or.inr (Or.inl c101)⟩) | exact ex_v (bI1 ⟨d, Or.inr (Or.inr c114)⟩) | exact ex_v (bI0 (fun z => z.2.elim c94 (fun z => z.elim c101 (fun z => z c114)))) | exact ex_v (bI0 (fun z => bIe (hi.symm.trans c88) z.1)))
        · refine VW.aload_n (pc' := 105) d_Model_isAllowed_104 rfl rfl ?_
          refine VW.iload_n (pc' := 106) d_Model_isAllowed_105 rfl rfl ?_
          refine VW.iload (pc' := 108) d_Model_isAllowed_106 rfl rfl ?_
          refine VW.iload (pc' := 110) d_Model_isAllowed_108 rfl rfl ?_
          refine VW.cV (ci := 11) (T := T11) (N := 94) (pc' := 113) d_Model_isAllowed_110 rfl mv_Model_find lk_Model_305 rfl (hM.k rfl) rfl rfl rfl (Nat.le_refl _) (Nat.le_refl _) (sp_Model_find hM hs (by omega) (by omega)) rfl rfl ?_
          refine VW.iconst (pc' := 114) d_Model_isAllowed_113 rfl (by decide) ?_
          refine VW.icmp_eq (tgt := 121) (pc' := 117) d_Model_isAllowed_114 rfl rfl (fun c114 => ?_) (fun c114 => ?_)
          · refine VW.iconst (pc' := 122) d_Model_isAllowed_121 rfl (by decide) ?_
            exact VW.iret d_Model_isAllowed_122 rfl rfl (Nat.zero_le _) (Nat.zero_le _) (by first | exact ex_v (bI1 ⟨d, Or.inl c94⟩) | exact ex_v (bI1 ⟨d, Or.inr (Or.inl c101)⟩) | exact ex_v (bI1 ⟨d, Or.inr (Or.inr c114)⟩) | exact ex_v (bI0 (fun z => z.2.elim c94 (fun z => z.elim c101 (fun z => z c114)))) | exact ex_v (bI0 (fun z => bIe (hi.symm.trans c88) z.1)))
          · refine VW.iconst (pc' := 118) d_Model_isAllowed_117 rfl (by decide) ?_
            refine VW.goto (pc' := 122) d_Model_isAllowed_118 rfl ?_
            exact VW.iret d_Model_isAllowed_122 rfl rfl (Nat.zero_le _) (Nat.zero_le _) (by first | exact ex_v (bI1 ⟨d, Or.inl c94⟩) | exact ex_v (bI1 ⟨d, Or.inr (Or.inl c101)⟩) | exact ex_v (bI1 ⟨d, Or.inr (Or.inr c114)⟩) | exact ex_v (bI0 (fun z => z.2.elim c94 (fun z => z.elim c101 (fun z => z c114)))) | exact ex_v (bI0 (fun z => bIe (hi.symm.trans c88) z.1)))
  have loop : ∀ (n : Nat) (k is : Int), k + n = 4 * t + I 202 t → 4 * t ≤ k → andI (fun j => (I 203 j = c → cmp3 v (I 204 j) (I 205 j) ≠ 0)) (4 * t) k is → VW m_Model_isAllowed false (rmv 2 47) (ex K P J I (.inl (some (vI (bI (mCheckOk I t c v ∧ mRefOk I s t c v)))))) K P J I 0 0 8 [(0, vR (some 100)), (1, vI s), (2, vI t), (3, vI c), (4, vI v), (5, vI is), (6, vI k)] [] := by
    intro n
    induction n with
    | zero =>
      intro k is hk hq hi
      refine VW.iload (pc' := 10) d_Model_isAllowed_8 rfl rfl ?_
      refine VW.iconst (pc' := 11) d_Model_isAllowed_10 rfl (by decide) ?_
      refine VW.iload_n (pc' := 12) d_Model_isAllowed_11 rfl rfl ?_
      refine VW.imul (pc' := 13) d_Model_isAllowed_12 rfl (by omega) ?_
      refine VW.aload_n (pc' := 14) d_Model_isAllowed_13 rfl rfl ?_
      refine VW.gP (ci := 11) (T := T11) (N := 94) (k := 2) (k' := 2) (pc' := 17) d_Model_isAllowed_14 rfl lk_Model_13 in11 rfl rfl rfl rfl (hM.k rfl) (hM.p (r := some 202) 2 rfl rfl) ?_
      refine VW.iload_n (pc' := 18) d_Model_isAllowed_17 rfl rfl ?_
      refine VW.ild (pc' := 19) d_Model_isAllowed_18 rfl (hM.k rfl) (by omega) (by omega) (by first | assumption | (simp [up2] <;> rfl) | rfl) ?_
      refine VW.iadd (pc' := 20) d_Model_isAllowed_19 rfl (by omega) ?_
      refine VW.icmp_ge (tgt := 74) (pc' := 23) d_Model_isAllowed_20 rfl rfl (fun c20 => ?_) (fun c20 => ?_)
      · refine VW.pick [0, 1, 2, 3, 4, 5] ?_
        exact fin is (by rw [hi.bI, show k = 4 * t + I 202 t by omega]; rfl)
      · exfalso; omega
    | succ n ih =>
      intro k is hk hq hi
      refine VW.iload (pc' := 10) d_Model_isAllowed_8 rfl rfl ?_
      refine VW.iconst (pc' := 11) d_Model_isAllowed_10 rfl (by decide) ?_
      refine VW.iload_n (pc' := 12) d_Model_isAllowed_11 rfl rfl ?_
      refine VW.imul (pc' := 13) d_Model_isAllowed_12 rfl (by omega) ?_
      refine VW.aload_n (pc' := 14) d_Model_isAllowed_13 rfl rfl ?_
      refine VW.gP (ci := 11) (T := T11) (N := 94) (k := 2) (k' := 2) (pc' := 17) d_Model_isAllowed_14 rfl lk_Model_13 in11 rfl rfl rfl rfl (hM.k rfl) (hM.p (r := some 202) 2 rfl rfl) ?_
      refine VW.iload_n (pc' := 18) d_Model_isAllowed_17 rfl rfl ?_
      refine VW.ild (pc' := 19) d_Model_isAllowed_18 rfl (hM.k rfl) (by omega) (by omega) (by first | assumption | (simp [up2] <;> rfl) | rfl) ?_
      refine VW.iadd (pc' := 20) d_Model_isAllowed_19 rfl (by omega) ?_
      refine VW.icmp_ge (tgt := 74) (pc' := 23) d_Model_isAllowed_20 rfl rfl (fun c20 => ?_) (fun c20 => ?_)
      · exfalso; omega
      · refine VW.iload (pc' := 25) d_Model_isAllowed_23 rfl rfl ?_
        refine VW.if_eq (tgt := 65) (pc' := 28) d_Model_isAllowed_25 rfl rfl (fun c25 => ?_) (fun c25 => ?_)
        · try have e25 := bIe c25
          refine VW.iconst (pc' := 66) d_Model_isAllowed_65 rfl (by decide) ?_
          refine VW.istore (pc' := 68) d_Model_isAllowed_66 rfl rfl ?_
          refine VW.iinc (pc' := 71) d_Model_isAllowed_68 rfl rfl rfl (by omega) ?_
          refine VW.goto (pc' := 8) d_Model_isAllowed_71 rfl ?_
          refine VW.nrm ?_
          exact ih (k + 1) _ (by omega) (by omega) (by first | exact hi.keep c25 | exact hi.yes c25 (fun z => absurd z c36) | exact hi.yes c25 (fun _ => c58) | exact andI.no hq (fun z => z c36 c58))
        · try have e25 := bIn c25
          refine VW.aload_n (pc' := 29) d_Model_isAllowed_28 rfl rfl ?_
          refine VW.gP (ci := 11) (T := T11) (N := 94) (k := 3) (k' := 3) (pc' := 32) d_Model_isAllowed_29 rfl lk_Model_16 in11 rfl rfl rfl rfl (hM.k rfl) (hM.p (r := some 203) 3 rfl rfl) ?_
          refine VW.iload (pc' := 34) d_Model_isAllowed_32 rfl rfl ?_
          refine VW.ild (pc' := 35) d_Model_isAllowed_34 rfl (hM.k rfl) (by omega) (by omega) (by first | assumption | (simp [up2] <;> rfl) | rfl) ?_
          refine VW.iload_n (pc' := 36) d_Model_isAllowed_35 rfl rfl ?_
          refine VW.icmp_ne (tgt := 61) (pc' := 39) d_Model_isAllowed_36 rfl rfl (fun c36 => ?_) (fun c36 => ?_)
          · refine VW.iconst (pc' := 62) d_Model_isAllowed_61 rfl (by decide) ?_
            refine VW.goto (pc' := 66) d_Model_isAllowed_62 rfl ?_
            refine VW.istore (pc' := 68) d_Model_isAllowed_66 rfl rfl ?_
            refine VW.iinc (pc' := 71) d_Model_isAllowed_68 rfl rfl rfl (by omega) ?_
            refine VW.goto (pc' := 8) d_Model_isAllowed_71 rfl ?_
            refine VW.nrm ?_
            exact ih (k + 1) _ (by omega) (by omega) (by first | exact hi.keep c25 | exact hi.yes c25 (fun z => absurd z c36) | exact hi.yes c25 (fun _ => c58) | exact andI.no hq (fun z => z c36 c58))
          · refine VW.iload (pc' := 41) d_Model_isAllowed_39 rfl rfl ?_
            refine VW.aload_n (pc' := 42) d_Model_isAllowed_41 rfl rfl ?_
            refine VW.gP (ci := 11) (T := T11) (N := 94) (k := 4) (k' := 4) (pc' := 45) d_Model_isAllowed_42 rfl lk_Model_19 in11 rfl rfl rfl rfl (hM.k rfl) (hM.p (r := some 204) 4 rfl rfl) ?_
            refine VW.iload (pc' := 47) d_Model_isAllowed_45 rfl rfl ?_
            refine VW.ild (pc' := 48) d_Model_isAllowed_47 rfl (hM.k rfl) (by omega) (by omega) (by first | assumption | (simp [up2] <;> rfl) | rfl) ?_
            refine VW.aload_n (pc' := 49) d_Model_isAllowed_48 rfl rfl ?_
            refine VW.gP (ci := 11) (T := T11) (N := 94) (k := 5) (k' := 5) (pc' := 52) d_Model_isAllowed_49 rfl lk_Model_22 in11 rfl rfl rfl rfl (hM.k rfl) (hM.p (r := some 205) 5 rfl rfl) ?_
            refine VW.iload (pc' := 54) d_Model_isAllowed_52 rfl rfl ?_
            refine VW.ild (pc' := 55) d_Model_isAllowed_54 rfl (hM.k rfl) (by omega) (by omega) (by first | assumption | (simp [up2] <;> rfl) | rfl) ?_
            refine VW.cS (pc' := 58) d_Model_isAllowed_55 rfl ms_Model_compares lk_Model_281 rfl rfl rfl (Nat.le_refl _) (Nat.le_refl _) (sp_Model_compares) rfl rfl ?_
            refine VW.if_eq (tgt := 65) (pc' := 61) d_Model_isAllowed_58 rfl rfl (fun c58 => ?_) (fun c58 => ?_)
            · try have e58 := bIe c58
              refine VW.iconst (pc' := 66) d_Model_isAllowed_65 rfl (by decide) ?_
              refine VW.istore (pc' := 68) d_Model_isAllowed_66 rfl rfl ?_
              refine VW.iinc (pc' := 71) d_Model_isAllowed_68 rfl rfl rfl (by omega) ?_
              refine VW.goto (pc' := 8) d_Model_isAllowed_71 rfl ?_
              refine VW.nrm ?_
              exact ih (k + 1) _ (by omega) (by omega) (by first | exact hi.keep c25 | exact hi.yes c25 (fun z => absurd z c36) | exact hi.yes c25 (fun _ => c58) | exact andI.no hq (fun z => z c36 c58))
            · try have e58 := bIn c58
              refine VW.iconst (pc' := 62) d_Model_isAllowed_61 rfl (by decide) ?_
              refine VW.goto (pc' := 66) d_Model_isAllowed_62 rfl ?_
              refine VW.istore (pc' := 68) d_Model_isAllowed_66 rfl rfl ?_
              refine VW.iinc (pc' := 71) d_Model_isAllowed_68 rfl rfl rfl (by omega) ?_
              refine VW.goto (pc' := 8) d_Model_isAllowed_71 rfl ?_
              refine VW.nrm ?_
              exact ih (k + 1) _ (by omega) (by omega) (by first | exact hi.keep c25 | exact hi.yes c25 (fun z => absurd z c36) | exact hi.yes c25 (fun _ => c58) | exact andI.no hq (fun z => z c36 c58))
  refine VW.iconst (pc' := 1) d_Model_isAllowed_0 rfl (by decide) ?_
  refine VW.istore (pc' := 3) d_Model_isAllowed_1 rfl rfl ?_
  refine VW.iconst (pc' := 4) d_Model_isAllowed_3 rfl (by decide) ?_
  refine VW.iload_n (pc' := 5) d_Model_isAllowed_4 rfl rfl ?_
  refine VW.imul (pc' := 6) d_Model_isAllowed_5 rfl (by omega) ?_
  refine VW.istore (pc' := 8) d_Model_isAllowed_6 rfl rfl ?_
  refine VW.nrm ?_
  exact loop (I 202 t).toNat (4 * t) 1 (by omega) (by omega) andI.z
end
