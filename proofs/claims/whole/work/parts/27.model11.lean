section
variable {K : KT} {P : PT} {J I : IT}
/-- sortsWrites puts a write where it belongs among those before it -/
def mPut (S : IT) (j t key : Int) : IT := up2 (up2 S 242 j t) 243 j key
def mShG (S : IT) (j t key : Int) : Prop := t < S 242 (j - 1) ∨ (S 242 (j - 1) = t ∧ key < S 243 (j - 1))
noncomputable def mSh (t key : Int) : Nat → IT → IT
  | 0, S => mPut S 0 t key
  | n + 1, S => if bI (mShG S ((n : Int) + 1) t key) = 1 then mSh t key n (up2 (up2 S 242 ((n : Int) + 1) (S 242 ((n : Int) + 1 - 1))) 243 ((n : Int) + 1) (S 243 ((n : Int) + 1 - 1))) else mPut S ((n : Int) + 1) t key
theorem mSh_yes {t key : Int} {n : Nat} {S : IT} (h : mShG S ((n : Int) + 1) t key) : mSh t key (n + 1) S = mSh t key n (up2 (up2 S 242 ((n : Int) + 1) (S 242 ((n : Int) + 1 - 1))) 243 ((n : Int) + 1) (S 243 ((n : Int) + 1 - 1))) := if_pos (bI1 h)
theorem mSh_no {t key : Int} {n : Nat} {S : IT} (h : ¬ mShG S ((n : Int) + 1) t key) : mSh t key (n + 1) S = mPut S ((n : Int) + 1) t key := if_neg (by rw [bI0 h]; decide)
theorem mSh_fr {t key : Int} (n : Nat) : ∀ (S : IT) (o : Nat) (k : Int), o ≠ 242 → o ≠ 243 → mSh t key n S o k = S o k := by
  induction n with
  | zero => intro S o k h1 h2; simp [mSh, mPut, up2, h1, h2]
  | succ n ih =>
    intro S o k h1 h2
    by_cases h : mShG S ((n : Int) + 1) t key
    · rw [mSh_yes h, ih _ o k h1 h2]; simp [up2, h1, h2]
    · rw [mSh_no h]; simp [mPut, up2, h1, h2]
/-- the writes wanted, the first n + 1 of them in order -/
noncomputable def mSortN (I : IT) : Nat → IT
  | 0 => I
  | n + 1 => mSh (mSortN I n 242 ((n : Int) + 1)) (mSortN I n 243 ((n : Int) + 1)) (n + 1) (mSortN I n)
theorem mSortN_fr (n : Nat) (o : Nat) (k : Int) (h1 : o ≠ 242) (h2 : o ≠ 243) : mSortN I n o k = I o k := by
  induction n with
  | zero => rfl
  | succ n ih => exact (mSh_fr (n + 1) _ o k h1 h2).trans ih
theorem sp_Model_sortsWrites (hM : MW K P) (hw : 0 ≤ I 100 41 ∧ I 100 41 ≤ 384) : Sp m_Model_sortsWrites false (rmv 0 0) (ex K P J (mSortN I (I 100 41 - 1).toNat) (.inl none)) K P J I [vR (some 100)] := by
  refine Sp.ofV (by decide) (Or.inr rfl) rfl ?_
  have loop1 : ∀ (n m : Nat) (k : Int), (k + n = I 100 41 ∨ (n = 0 ∧ m = 0 ∧ I 100 41 ≤ k)) → k = m + 1 → VW m_Model_sortsWrites false (rmv 0 0) (ex K P J (mSortN I (I 100 41 - 1).toNat) (.inl none)) K P J (mSortN I m) 0 0 2 [(0, vR (some 100)), (1, vI k)] [] := by
    intro n
    induction n with
    | zero =>
      intro m k hk hm
      have f41 := @mSortN_fr I m 100 41 (by decide) (by decide)
      have em : (I 100 41 - 1).toNat = m := by omega
      rw [em]
      refine VW.iload_n (pc' := 3) d_Model_sortsWrites_2 rfl rfl ?_
      refine VW.aload_n (pc' := 4) d_Model_sortsWrites_3 rfl rfl ?_
      refine VW.gI (ci := 11) (T := T11) (N := 94) (k := 41) (k' := 41) (pc' := 7) d_Model_sortsWrites_4 rfl lk_Model_312 in11 rfl rfl rfl rfl (hM.k rfl) (by first | exact f41 | rfl) ?_
      refine VW.icmp_ge (tgt := 131) (pc' := 10) d_Model_sortsWrites_7 rfl rfl (fun c7 => ?_) (fun c7 => ?_)
      · exact VW.vret d_Model_sortsWrites_131 rfl (Nat.zero_le _) (Nat.zero_le _) ex_rf
      · exfalso; omega
    | succ n ih =>
      intro m k hk hm
      have f41 := @mSortN_fr I m 100 41 (by decide) (by decide)
      have hk2 : k < I 100 41 := by omega
      have ih1 := ih (m + 1) (k + 1) (by omega) (by omega)
      subst hm
      have loop2 : ∀ (l : Nat) (S : IT) (j : Int), j = l → (l : Int) ≤ 384 - 1 → mSh (mSortN I m 242 ((m : Int) + 1)) (mSortN I m 243 ((m : Int) + 1)) l S = mSortN I (m + 1) → VW m_Model_sortsWrites false (rmv 0 0) (ex K P J (mSortN I (I 100 41 - 1).toNat) (.inl none)) K P J S 0 0 27 [(0, vR (some 100)), (1, vI ((m : Int) + 1)), (2, vI (mSortN I m 242 ((m : Int) + 1))), (3, vI (mSortN I m 243 ((m : Int) + 1))), (4, vI j)] [] := by
        generalize mSortN I (m + 1) = F at ih1 ⊢
        generalize mSortN I m 242 ((m : Int) + 1) = t
        generalize mSortN I m 243 ((m : Int) + 1) = key
        intro l
        induction l with
        | zero =>
          intro S j hj hl hF
          have ej : j = 0 := by omega
          subst ej
          have z : mPut S 0 t key = F := hF
          refine VW.iload (pc' := 29) d_Model_sortsWrites_27 rfl rfl ?_
          refine VW.if_le (tgt := 109) (pc' := 32) d_Model_sortsWrites_29 rfl rfl (fun c29 => ?_) (fun c29 => ?_)
          · refine VW.aload_n (pc' := 110) d_Model_sortsWrites_109 rfl rfl ?_
            refine VW.gP (ci := 11) (T := T11) (N := 94) (k := 42) (k' := 42) (pc' := 113) d_Model_sortsWrites_110 rfl lk_Model_120 in11 rfl rfl rfl rfl (hM.k rfl) (hM.p (r := some 242) 42 rfl rfl) ?_
            refine VW.iload (pc' := 115) d_Model_sortsWrites_113 rfl rfl ?_
            refine VW.iload_n (pc' := 116) d_Model_sortsWrites_115 rfl rfl ?_
            refine VW.iast (pc' := 117) d_Model_sortsWrites_116 rfl (hM.k rfl) (by omega) (by omega) ?_
            refine VW.aload_n (pc' := 118) d_Model_sortsWrites_117 rfl rfl ?_
            refine VW.gP (ci := 11) (T := T11) (N := 94) (k := 43) (k' := 43) (pc' := 121) d_Model_sortsWrites_118 rfl lk_Model_123 in11 rfl rfl rfl rfl (hM.k rfl) (hM.p (r := some 243) 43 rfl rfl) ?_
            refine VW.iload (pc' := 123) d_Model_sortsWrites_121 rfl rfl ?_
            refine VW.iload_n (pc' := 124) d_Model_sortsWrites_123 rfl rfl ?_
            refine VW.iast (pc' := 125) d_Model_sortsWrites_124 rfl (hM.k rfl) (by omega) (by omega) ?_
            refine VW.iinc (pc' := 128) d_Model_sortsWrites_125 rfl rfl rfl (by omega) ?_
            refine VW.goto (pc' := 2) d_Model_sortsWrites_128 rfl ?_
            refine VW.pick [0, 1] ?_
            rw [← z] at ih1
            exact ih1
          · exfalso; omega
        | succ l ih2 =>
          intro S j hj hl hF
          have ej : j = (l : Int) + 1 := by omega
          subst ej
          refine VW.iload (pc' := 29) d_Model_sortsWrites_27 rfl rfl ?_
          refine VW.if_le (tgt := 109) (pc' := 32) d_Model_sortsWrites_29 rfl rfl (fun c29 => ?_) (fun c29 => ?_)
          · refine VW.aload_n (pc' := 110) d_Model_sortsWrites_109 rfl rfl ?_
            refine VW.gP (ci := 11) (T := T11) (N := 94) (k := 42) (k' := 42) (pc' := 113) d_Model_sortsWrites_110 rfl lk_Model_120 in11 rfl rfl rfl rfl (hM.k rfl) (hM.p (r := some 242) 42 rfl rfl) ?_
            refine VW.iload (pc' := 115) d_Model_sortsWrites_113 rfl rfl ?_
            refine VW.iload_n (pc' := 116) d_Model_sortsWrites_115 rfl rfl ?_
            refine VW.iast (pc' := 117) d_Model_sortsWrites_116 rfl (hM.k rfl) (by omega) (by omega) ?_
            refine VW.aload_n (pc' := 118) d_Model_sortsWrites_117 rfl rfl ?_
            refine VW.gP (ci := 11) (T := T11) (N := 94) (k := 43) (k' := 43) (pc' := 121) d_Model_sortsWrites_118 rfl lk_Model_123 in11 rfl rfl rfl rfl (hM.k rfl) (hM.p (r := some 243) 43 rfl rfl) ?_
            refine VW.iload (pc' := 123) d_Model_sortsWrites_121 rfl rfl ?_
            refine VW.iload_n (pc' := 124) d_Model_sortsWrites_123 rfl rfl ?_
            refine VW.iast (pc' := 125) d_Model_sortsWrites_124 rfl (hM.k rfl) (by omega) (by omega) ?_
            refine VW.iinc (pc' := 128) d_Model_sortsWrites_125 rfl rfl rfl (by omega) ?_
            refine VW.goto (pc' := 2) d_Model_sortsWrites_128 rfl ?_
            refine VW.pick [0, 1] ?_
            have z : mPut S ((l : Int) + 1) t key = F := by
              first | (exfalso; omega) | exact (mSh_no (fun q => by rcases q with q | q <;> omega)).symm.trans hF
            rw [← z] at ih1
            exact ih1
          · refine VW.aload_n (pc' := 33) d_Model_sortsWrites_32 rfl rfl ?_
            refine VW.gP (ci := 11) (T := T11) (N := 94) (k := 42) (k' := 42) (pc' := 36) d_Model_sortsWrites_33 rfl lk_Model_120 in11 rfl rfl rfl rfl (hM.k rfl) (hM.p (r := some 242) 42 rfl rfl) ?_
            refine VW.iload (pc' := 38) d_Model_sortsWrites_36 rfl rfl ?_
            refine VW.iconst (pc' := 39) d_Model_sortsWrites_38 rfl (by decide) ?_
            refine VW.isub (pc' := 40) d_Model_sortsWrites_39 rfl (by omega) ?_
            refine VW.ild (pc' := 41) d_Model_sortsWrites_40 rfl (hM.k rfl) (by omega) (by omega) (by first | rfl | (simp [up2] <;> rfl)) ?_
            refine VW.iload_n (pc' := 42) d_Model_sortsWrites_41 rfl rfl ?_
            refine VW.icmp_gt (tgt := 71) (pc' := 45) d_Model_sortsWrites_42 rfl rfl (fun c42 => ?_) (fun c42 => ?_)
            · refine VW.aload_n (pc' := 72) d_Model_sortsWrites_71 rfl rfl ?_
              refine VW.gP (ci := 11) (T := T11) (N := 94) (k := 42) (k' := 42) (pc' := 75) d_Model_sortsWrites_72 rfl lk_Model_120 in11 rfl rfl rfl rfl (hM.k rfl) (hM.p (r := some 242) 42 rfl rfl) ?_
              refine VW.iload (pc' := 77) d_Model_sortsWrites_75 rfl rfl ?_
              refine VW.aload_n (pc' := 78) d_Model_sortsWrites_77 rfl rfl ?_
              refine VW.gP (ci := 11) (T := T11) (N := 94) (k := 42) (k' := 42) (pc' := 81) d_Model_sortsWrites_78 rfl lk_Model_120 in11 rfl rfl rfl rfl (hM.k rfl) (hM.p (r := some 242) 42 rfl rfl) ?_
              refine VW.iload (pc' := 83) d_Model_sortsWrites_81 rfl rfl ?_
              refine VW.iconst (pc' := 84) d_Model_sortsWrites_83 rfl (by decide) ?_
              refine VW.isub (pc' := 85) d_Model_sortsWrites_84 rfl (by omega) ?_
              refine VW.ild (pc' := 86) d_Model_sortsWrites_85 rfl (hM.k rfl) (by omega) (by omega) (by first | rfl | (simp [up2] <;> rfl)) ?_
              refine VW.iast (pc' := 87) d_Model_sortsWrites_86 rfl (hM.k rfl) (by omega) (by omega) ?_
              refine VW.aload_n (pc' := 88) d_Model_sortsWrites_87 rfl rfl ?_
              refine VW.gP (ci := 11) (T := T11) (N := 94) (k := 43) (k' := 43) (pc' := 91) d_Model_sortsWrites_88 rfl lk_Model_123 in11 rfl rfl rfl rfl (hM.k rfl) (hM.p (r := some 243) 43 rfl rfl) ?_
              refine VW.iload (pc' := 93) d_Model_sortsWrites_91 rfl rfl ?_
              refine VW.aload_n (pc' := 94) d_Model_sortsWrites_93 rfl rfl ?_
              refine VW.gP (ci := 11) (T := T11) (N := 94) (k := 43) (k' := 43) (pc' := 97) d_Model_sortsWrites_94 rfl lk_Model_123 in11 rfl rfl rfl rfl (hM.k rfl) (hM.p (r := some 243) 43 rfl rfl) ?_
              refine VW.iload (pc' := 99) d_Model_sortsWrites_97 rfl rfl ?_
              refine VW.iconst (pc' := 100) d_Model_sortsWrites_99 rfl (by decide) ?_
              refine VW.isub (pc' := 101) d_Model_sortsWrites_100 rfl (by omega) ?_
              refine VW.ild (pc' := 102) d_Model_sortsWrites_101 rfl (hM.k rfl) (by omega) (by omega) (by first | rfl | (simp [up2] <;> rfl)) ?_
              refine VW.iast (pc' := 103) d_Model_sortsWrites_102 rfl (hM.k rfl) (by omega) (by omega) ?_
              refine VW.iinc (pc' := 106) d_Model_sortsWrites_103 rfl rfl rfl (by omega) ?_
              refine VW.goto (pc' := 27) d_Model_sortsWrites_106 rfl ?_
              refine VW.nrm ?_
              exact ih2 _ _ (by omega) (by omega) (by first | exact (mSh_yes (Or.inl c42)).symm.trans hF | exact (mSh_yes (Or.inr ⟨c55, c68⟩)).symm.trans hF)
            · refine VW.aload_n (pc' := 46) d_Model_sortsWrites_45 rfl rfl ?_
              refine VW.gP (ci := 11) (T := T11) (N := 94) (k := 42) (k' := 42) (pc' := 49) d_Model_sortsWrites_46 rfl lk_Model_120 in11 rfl rfl rfl rfl (hM.k rfl) (hM.p (r := some 242) 42 rfl rfl) ?_
              refine VW.iload (pc' := 51) d_Model_sortsWrites_49 rfl rfl ?_
              refine VW.iconst (pc' := 52) d_Model_sortsWrites_51 rfl (by decide) ?_
              refine VW.isub (pc' := 53) d_Model_sortsWrites_52 rfl (by omega) ?_
              refine VW.ild (pc' := 54) d_Model_sortsWrites_53 rfl (hM.k rfl) (by omega) (by omega) (by first | rfl | (simp [up2] <;> rfl)) ?_
              refine VW.iload_n (pc' := 55) d_Model_sortsWrites_54 rfl rfl ?_
              refine VW.icmp_ne (tgt := 109) (pc' := 58) d_Model_sortsWrites_55 rfl rfl (fun c55 => ?_) (fun c55 => ?_)
              · refine VW.aload_n (pc' := 110) d_Model_sortsWrites_109 rfl rfl ?_
                refine VW.gP (ci := 11) (T := T11) (N := 94) (k := 42) (k' := 42) (pc' := 113) d_Model_sortsWrites_110 rfl lk_Model_120 in11 rfl rfl rfl rfl (hM.k rfl) (hM.p (r := some 242) 42 rfl rfl) ?_
                refine VW.iload (pc' := 115) d_Model_sortsWrites_113 rfl rfl ?_
                refine VW.iload_n (pc' := 116) d_Model_sortsWrites_115 rfl rfl ?_
                refine VW.iast (pc' := 117) d_Model_sortsWrites_116 rfl (hM.k rfl) (by omega) (by omega) ?_
                refine VW.aload_n (pc' := 118) d_Model_sortsWrites_117 rfl rfl ?_
                refine VW.gP (ci := 11) (T := T11) (N := 94) (k := 43) (k' := 43) (pc' := 121) d_Model_sortsWrites_118 rfl lk_Model_123 in11 rfl rfl rfl rfl (hM.k rfl) (hM.p (r := some 243) 43 rfl rfl) ?_
                refine VW.iload (pc' := 123) d_Model_sortsWrites_121 rfl rfl ?_
                refine VW.iload_n (pc' := 124) d_Model_sortsWrites_123 rfl rfl ?_
                refine VW.iast (pc' := 125) d_Model_sortsWrites_124 rfl (hM.k rfl) (by omega) (by omega) ?_
                refine VW.iinc (pc' := 128) d_Model_sortsWrites_125 rfl rfl rfl (by omega) ?_
                refine VW.goto (pc' := 2) d_Model_sortsWrites_128 rfl ?_
                refine VW.pick [0, 1] ?_
                have z : mPut S ((l : Int) + 1) t key = F := by
                  first | (exfalso; omega) | exact (mSh_no (fun q => by rcases q with q | q <;> omega)).symm.trans hF
                rw [← z] at ih1
                exact ih1
              · refine VW.aload_n (pc' := 59) d_Model_sortsWrites_58 rfl rfl ?_
                refine VW.gP (ci := 11) (T := T11) (N := 94) (k := 43) (k' := 43) (pc' := 62) d_Model_sortsWrites_59 rfl lk_Model_123 in11 rfl rfl rfl rfl (hM.k rfl) (hM.p (r := some 243) 43 rfl rfl) ?_
                refine VW.iload (pc' := 64) d_Model_sortsWrites_62 rfl rfl ?_
                refine VW.iconst (pc' := 65) d_Model_sortsWrites_64 rfl (by decide) ?_
                refine VW.isub (pc' := 66) d_Model_sortsWrites_65 rfl (by omega) ?_
                refine VW.ild (pc' := 67) d_Model_sortsWrites_66 rfl (hM.k rfl) (by omega) (by omega) (by first | rfl | (simp [up2] <;> rfl)) ?_
                refine VW.iload_n (pc' := 68) d_Model_sortsWrites_67 rfl rfl ?_
                refine VW.icmp_le (tgt := 109) (pc' := 71) d_Model_sortsWrites_68 rfl rfl (fun c68 => ?_) (fun c68 => ?_)
                · refine VW.aload_n (pc' := 110) d_Model_sortsWrites_109 rfl rfl ?_
                  refine VW.gP (ci := 11) (T := T11) (N := 94) (k := 42) (k' := 42) (pc' := 113) d_Model_sortsWrites_110 rfl lk_Model_120 in11 rfl rfl rfl rfl (hM.k rfl) (hM.p (r := some 242) 42 rfl rfl) ?_
                  refine VW.iload (pc' := 115) d_Model_sortsWrites_113 rfl rfl ?_
                  refine VW.iload_n (pc' := 116) d_Model_sortsWrites_115 rfl rfl ?_
                  refine VW.iast (pc' := 117) d_Model_sortsWrites_116 rfl (hM.k rfl) (by omega) (by omega) ?_
                  refine VW.aload_n (pc' := 118) d_Model_sortsWrites_117 rfl rfl ?_
                  refine VW.gP (ci := 11) (T := T11) (N := 94) (k := 43) (k' := 43) (pc' := 121) d_Model_sortsWrites_118 rfl lk_Model_123 in11 rfl rfl rfl rfl (hM.k rfl) (hM.p (r := some 243) 43 rfl rfl) ?_
                  refine VW.iload (pc' := 123) d_Model_sortsWrites_121 rfl rfl ?_
                  refine VW.iload_n (pc' := 124) d_Model_sortsWrites_123 rfl rfl ?_
                  refine VW.iast (pc' := 125) d_Model_sortsWrites_124 rfl (hM.k rfl) (by omega) (by omega) ?_
                  refine VW.iinc (pc' := 128) d_Model_sortsWrites_125 rfl rfl rfl (by omega) ?_
                  refine VW.goto (pc' := 2) d_Model_sortsWrites_128 rfl ?_
                  refine VW.pick [0, 1] ?_
                  have z : mPut S ((l : Int) + 1) t key = F := by
                    first | (exfalso; omega) | exact (mSh_no (fun q => by rcases q with q | q <;> omega)).symm.trans hF
                  rw [← z] at ih1
                  exact ih1
                · refine VW.aload_n (pc' := 72) d_Model_sortsWrites_71 rfl rfl ?_
                  refine VW.gP (ci := 11) (T := T11) (N := 94) (k := 42) (k' := 42) (pc' := 75) d_Model_sortsWrites_72 rfl lk_Model_120 in11 rfl rfl rfl rfl (hM.k rfl) (hM.p (r := some 242) 42 rfl rfl) ?_
                  refine VW.iload (pc' := 77) d_Model_sortsWrites_75 rfl rfl ?_
                  refine VW.aload_n (pc' := 78) d_Model_sortsWrites_77 rfl rfl ?_
                  refine VW.gP (ci := 11) (T := T11) (N := 94) (k := 42) (k' := 42) (pc' := 81) d_Model_sortsWrites_78 rfl lk_Model_120 in11 rfl rfl rfl rfl (hM.k rfl) (hM.p (r := some 242) 42 rfl rfl) ?_
                  refine VW.iload (pc' := 83) d_Model_sortsWrites_81 rfl rfl ?_
                  refine VW.iconst (pc' := 84) d_Model_sortsWrites_83 rfl (by decide) ?_
                  refine VW.isub (pc' := 85) d_Model_sortsWrites_84 rfl (by omega) ?_
                  refine VW.ild (pc' := 86) d_Model_sortsWrites_85 rfl (hM.k rfl) (by omega) (by omega) (by first | rfl | (simp [up2] <;> rfl)) ?_
                  refine VW.iast (pc' := 87) d_Model_sortsWrites_86 rfl (hM.k rfl) (by omega) (by omega) ?_
                  refine VW.aload_n (pc' := 88) d_Model_sortsWrites_87 rfl rfl ?_
                  refine VW.gP (ci := 11) (T := T11) (N := 94) (k := 43) (k' := 43) (pc' := 91) d_Model_sortsWrites_88 rfl lk_Model_123 in11 rfl rfl rfl rfl (hM.k rfl) (hM.p (r := some 243) 43 rfl rfl) ?_
                  refine VW.iload (pc' := 93) d_Model_sortsWrites_91 rfl rfl ?_
                  refine VW.aload_n (pc' := 94) d_Model_sortsWrites_93 rfl rfl ?_
                  refine VW.gP (ci := 11) (T := T11) (N := 94) (k := 43) (k' := 43) (pc' := 97) d_Model_sortsWrites_94 rfl lk_Model_123 in11 rfl rfl rfl rfl (hM.k rfl) (hM.p (r := some 243) 43 rfl rfl) ?_
                  refine VW.iload (pc' := 99) d_Model_sortsWrites_97 rfl rfl ?_
                  refine VW.iconst (pc' := 100) d_Model_sortsWrites_99 rfl (by decide) ?_
                  refine VW.isub (pc' := 101) d_Model_sortsWrites_100 rfl (by omega) ?_
                  refine VW.ild (pc' := 102) d_Model_sortsWrites_101 rfl (hM.k rfl) (by omega) (by omega) (by first | rfl | (simp [up2] <;> rfl)) ?_
                  refine VW.iast (pc' := 103) d_Model_sortsWrites_102 rfl (hM.k rfl) (by omega) (by omega) ?_
                  refine VW.iinc (pc' := 106) d_Model_sortsWrites_103 rfl rfl rfl (by omega) ?_
                  refine VW.goto (pc' := 27) d_Model_sortsWrites_106 rfl ?_
                  refine VW.nrm ?_
                  exact ih2 _ _ (by omega) (by omega) (by first | exact (mSh_yes (Or.inl c42)).symm.trans hF | exact (mSh_yes (Or.inr ⟨c55, c68⟩)).symm.trans hF)
      refine VW.iload_n (pc' := 3) d_Model_sortsWrites_2 rfl rfl ?_
      refine VW.aload_n (pc' := 4) d_Model_sortsWrites_3 rfl rfl ?_
      refine VW.gI (ci := 11) (T := T11) (N := 94) (k := 41) (k' := 41) (pc' := 7) d_Model_sortsWrites_4 rfl lk_Model_312 in11 rfl rfl rfl rfl (hM.k rfl) (by first | exact f41 | rfl) ?_
      refine VW.icmp_ge (tgt := 131) (pc' := 10) d_Model_sortsWrites_7 rfl rfl (fun c7 => ?_) (fun c7 => ?_)
      · exfalso; omega
      · refine VW.aload_n (pc' := 11) d_Model_sortsWrites_10 rfl rfl ?_
        refine VW.gP (ci := 11) (T := T11) (N := 94) (k := 42) (k' := 42) (pc' := 14) d_Model_sortsWrites_11 rfl lk_Model_120 in11 rfl rfl rfl rfl (hM.k rfl) (hM.p (r := some 242) 42 rfl rfl) ?_
        refine VW.iload_n (pc' := 15) d_Model_sortsWrites_14 rfl rfl ?_
        refine VW.ild (pc' := 16) d_Model_sortsWrites_15 rfl (hM.k rfl) (by omega) (by omega) (by first | exact f41 | rfl) ?_
        refine VW.istore_n (pc' := 17) d_Model_sortsWrites_16 rfl rfl ?_
        refine VW.aload_n (pc' := 18) d_Model_sortsWrites_17 rfl rfl ?_
        refine VW.gP (ci := 11) (T := T11) (N := 94) (k := 43) (k' := 43) (pc' := 21) d_Model_sortsWrites_18 rfl lk_Model_123 in11 rfl rfl rfl rfl (hM.k rfl) (hM.p (r := some 243) 43 rfl rfl) ?_
        refine VW.iload_n (pc' := 22) d_Model_sortsWrites_21 rfl rfl ?_
        refine VW.ild (pc' := 23) d_Model_sortsWrites_22 rfl (hM.k rfl) (by omega) (by omega) (by first | exact f41 | rfl) ?_
        refine VW.istore_n (pc' := 24) d_Model_sortsWrites_23 rfl rfl ?_
        refine VW.iload_n (pc' := 25) d_Model_sortsWrites_24 rfl rfl ?_
        refine VW.istore (pc' := 27) d_Model_sortsWrites_25 rfl rfl ?_
        refine VW.nrm ?_
        exact loop2 (m + 1) (mSortN I m) _ (by omega) (by omega) rfl
  refine VW.iconst (pc' := 1) d_Model_sortsWrites_0 rfl (by decide) ?_
  refine VW.istore_n (pc' := 2) d_Model_sortsWrites_1 rfl rfl ?_
  refine VW.nrm ?_
  exact loop1 (I 100 41 - 1).toNat 0 1 (by omega) (by omega)
end
