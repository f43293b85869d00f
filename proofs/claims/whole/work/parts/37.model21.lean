section
variable {K : KT} {P : PT} {J I : IT}
theorem sp_commits {i t key : Int} (hM : MW K P) (p0 : 0 ≤ I 223 i ∧ I 223 i < 4) (r1 : 0 ≤ I 214 (6 * I 223 i + t) ∧ I 214 (6 * I 223 i + t) ≤ 63) (r3 : 0 ≤ I 214 (24 + t) ∧ I 214 (24 + t) ≤ 63) (hi : 0 ≤ i ∧ i < 60) (ht : 0 ≤ t ∧ t < 6) (hk : -1000 ≤ key ∧ key ≤ 1000) : Sp m_Model_commits false (rmv 3 73) (ex K P J (mcom I i t key) (.inl none)) K P J I [vR (some 100), vI i, vI t, vI key] := by
  refine Sp.ofV (by decide) (Or.inr rfl) rfl ?_
  have r2 : 0 ≤ I 214 (6 * 4 + t) ∧ I 214 (6 * 4 + t) ≤ 63 := r3
  have m1 := mfind_rg I (I 223 i) t key
  have m2 := mfind_rg I 4 t key
  refine VW.aload_n (pc' := 1) d_Model_commits_0 rfl rfl ?_
  refine VW.aload_n (pc' := 2) d_Model_commits_1 rfl rfl ?_
  refine VW.gP (ci := 11) (T := T11) (N := 94) (k := 23) (k' := 23) (pc' := 5) d_Model_commits_2 rfl lk_Model_67 in11 rfl rfl rfl rfl (hM.k rfl) (hM.p (r := some 223) 23 rfl rfl) ?_
  refine VW.iload_n (pc' := 6) d_Model_commits_5 rfl rfl ?_
  refine VW.ild (pc' := 7) d_Model_commits_6 rfl (hM.k rfl) (by omega) (by omega) (by first | assumption | (simp [up2] <;> rfl) | rfl) ?_
  refine VW.iload_n (pc' := 8) d_Model_commits_7 rfl rfl ?_
  refine VW.iload_n (pc' := 9) d_Model_commits_8 rfl rfl ?_
  refine VW.cV (ci := 11) (T := T11) (N := 94) (pc' := 12) d_Model_commits_9 rfl mv_Model_find lk_Model_305 rfl (hM.k rfl) rfl rfl rfl (Nat.le_refl _) (Nat.le_refl _) (sp_Model_find hM (by omega) (by omega) (by omega)) rfl rfl ?_
  refine VW.istore (pc' := 14) d_Model_commits_12 rfl rfl ?_
  refine VW.aload_n (pc' := 15) d_Model_commits_14 rfl rfl ?_
  refine VW.iconst (pc' := 16) d_Model_commits_15 rfl (by decide) ?_
  refine VW.iload_n (pc' := 17) d_Model_commits_16 rfl rfl ?_
  refine VW.iload_n (pc' := 18) d_Model_commits_17 rfl rfl ?_
  refine VW.cV (ci := 11) (T := T11) (N := 94) (pc' := 21) d_Model_commits_18 rfl mv_Model_find lk_Model_305 rfl (hM.k rfl) rfl rfl rfl (Nat.le_refl _) (Nat.le_refl _) (sp_Model_find hM (by omega) (by omega) (by omega)) rfl rfl ?_
  refine VW.istore (pc' := 23) d_Model_commits_21 rfl rfl ?_
  refine VW.iload (pc' := 25) d_Model_commits_23 rfl rfl ?_
  refine VW.iconst (pc' := 26) d_Model_commits_25 rfl (by decide) ?_
  refine VW.icmp_ne (tgt := 46) (pc' := 29) d_Model_commits_26 rfl rfl (fun c26 => ?_) (fun c26 => ?_)
  · refine VW.iload (pc' := 48) d_Model_commits_46 rfl rfl ?_
    refine VW.iconst (pc' := 49) d_Model_commits_48 rfl (by decide) ?_
    refine VW.icmp_eq (tgt := 102) (pc' := 52) d_Model_commits_49 rfl rfl (fun c49 => ?_) (fun c49 => ?_)
    · refine VW.aload_n (pc' := 103) d_Model_commits_102 rfl rfl ?_
      refine VW.gP (ci := 11) (T := T11) (N := 94) (k := 17) (k' := 17) (pc' := 106) d_Model_commits_103 rfl lk_Model_52 in11 rfl rfl rfl rfl (hM.k rfl) (hM.p (r := some 217) 17 rfl rfl) ?_
      refine VW.sipush (pc' := 109) d_Model_commits_106 rfl (by decide) ?_
      refine VW.iload_n (pc' := 110) d_Model_commits_109 rfl rfl ?_
      refine VW.imul (pc' := 111) d_Model_commits_110 rfl (by omega) ?_
      refine VW.iload_n (pc' := 112) d_Model_commits_111 rfl rfl ?_
      refine VW.iadd (pc' := 113) d_Model_commits_112 rfl (by omega) ?_
      refine VW.sipush (pc' := 116) d_Model_commits_113 rfl (by decide) ?_
      refine VW.iadd (pc' := 117) d_Model_commits_116 rfl (by omega) ?_
      refine VW.aload_n (pc' := 118) d_Model_commits_117 rfl rfl ?_
      refine VW.gI (ci := 11) (T := T11) (N := 94) (k := 16) (k' := 16) (pc' := 121) d_Model_commits_118 rfl lk_Model_285 in11 rfl rfl rfl rfl (hM.k rfl) (by first | assumption | (simp [up2] <;> rfl) | rfl) ?_
      refine VW.iast (pc' := 122) d_Model_commits_121 rfl (hM.k rfl) (by omega) (by omega) ?_
      refine VW.aload_n (pc' := 123) d_Model_commits_122 rfl rfl ?_
      refine VW.gP (ci := 11) (T := T11) (N := 94) (k := 18) (k' := 18) (pc' := 126) d_Model_commits_123 rfl lk_Model_55 in11 rfl rfl rfl rfl (hM.k rfl) (hM.p (r := some 218) 18 rfl rfl) ?_
      refine VW.iload_n (pc' := 127) d_Model_commits_126 rfl rfl ?_
      refine VW.aload_n (pc' := 128) d_Model_commits_127 rfl rfl ?_
      refine VW.gI (ci := 11) (T := T11) (N := 94) (k := 16) (k' := 16) (pc' := 131) d_Model_commits_128 rfl lk_Model_285 in11 rfl rfl rfl rfl (hM.k rfl) (by first | assumption | (simp [up2] <;> rfl) | rfl) ?_
      refine VW.iast (pc' := 132) d_Model_commits_131 rfl (hM.k rfl) (by omega) (by omega) ?_
      exact VW.vret d_Model_commits_132 rfl (Nat.zero_le _) (Nat.zero_le _) (by first | (exfalso; omega) | exact ex_i (mcom_of (mcomR_b c26 c32) (by simp [cpyI, up2])) | exact ex_i (mcom_of (mcomR_a c26 c32) (by simp [cpyI, up2])) | exact ex_i (mcom_of (mcomR_c c49 c59) (by simp [cpyI, up2])) | exact ex_i (mcom_of (mcomR_d c49 c59) (by simp [cpyI, up2])))
    · refine VW.iload (pc' := 54) d_Model_commits_52 rfl rfl ?_
      refine VW.istore (pc' := 56) d_Model_commits_54 rfl rfl ?_
      refine VW.iload (pc' := 58) d_Model_commits_56 rfl rfl ?_
      refine VW.iconst (pc' := 59) d_Model_commits_58 rfl (by decide) ?_
      refine VW.icmp_ne (tgt := 86) (pc' := 62) d_Model_commits_59 rfl rfl (fun c59 => ?_) (fun c59 => ?_)
      · refine VW.aload_n (pc' := 87) d_Model_commits_86 rfl rfl ?_
        refine VW.aload_n (pc' := 88) d_Model_commits_87 rfl rfl ?_
        refine VW.gP (ci := 11) (T := T11) (N := 94) (k := 23) (k' := 23) (pc' := 91) d_Model_commits_88 rfl lk_Model_67 in11 rfl rfl rfl rfl (hM.k rfl) (hM.p (r := some 223) 23 rfl rfl) ?_
        refine VW.iload_n (pc' := 92) d_Model_commits_91 rfl rfl ?_
        refine VW.ild (pc' := 93) d_Model_commits_92 rfl (hM.k rfl) (by omega) (by omega) (by first | assumption | (simp [up2] <;> rfl) | rfl) ?_
        refine VW.iload (pc' := 95) d_Model_commits_93 rfl rfl ?_
        refine VW.iconst (pc' := 96) d_Model_commits_95 rfl (by decide) ?_
        refine VW.iload (pc' := 98) d_Model_commits_96 rfl rfl ?_
        refine VW.iload_n (pc' := 99) d_Model_commits_98 rfl rfl ?_
        refine VW.cV (ci := 11) (T := T11) (N := 94) (pc' := 102) d_Model_commits_99 rfl mv_Model_copiesRow lk_Model_277 rfl (hM.k rfl) rfl rfl rfl (Nat.le_refl _) (Nat.le_refl _) (sp_Model_copiesRow hM (by omega) (by omega) (by omega) (by omega) (by omega)) rfl rfl ?_
        refine VW.aload_n (pc' := 103) d_Model_commits_102 rfl rfl ?_
        refine VW.gP (ci := 11) (T := T11) (N := 94) (k := 17) (k' := 17) (pc' := 106) d_Model_commits_103 rfl lk_Model_52 in11 rfl rfl rfl rfl (hM.k rfl) (hM.p (r := some 217) 17 rfl rfl) ?_
        refine VW.sipush (pc' := 109) d_Model_commits_106 rfl (by decide) ?_
        refine VW.iload_n (pc' := 110) d_Model_commits_109 rfl rfl ?_
        refine VW.imul (pc' := 111) d_Model_commits_110 rfl (by omega) ?_
        refine VW.iload_n (pc' := 112) d_Model_commits_111 rfl rfl ?_
        refine VW.iadd (pc' := 113) d_Model_commits_112 rfl (by omega) ?_
        refine VW.sipush (pc' := 116) d_Model_commits_113 rfl (by decide) ?_
        refine VW.iadd (pc' := 117) d_Model_commits_116 rfl (by omega) ?_
        refine VW.aload_n (pc' := 118) d_Model_commits_117 rfl rfl ?_
        refine VW.gI (ci := 11) (T := T11) (N := 94) (k := 16) (k' := 16) (pc' := 121) d_Model_commits_118 rfl lk_Model_285 in11 rfl rfl rfl rfl (hM.k rfl) (by first | assumption | (simp [up2] <;> rfl) | rfl) ?_
        refine VW.iast (pc' := 122) d_Model_commits_121 rfl (hM.k rfl) (by omega) (by omega) ?_
        refine VW.aload_n (pc' := 123) d_Model_commits_122 rfl rfl ?_
        refine VW.gP (ci := 11) (T := T11) (N := 94) (k := 18) (k' := 18) (pc' := 126) d_Model_commits_123 rfl lk_Model_55 in11 rfl rfl rfl rfl (hM.k rfl) (hM.p (r := some 218) 18 rfl rfl) ?_
        refine VW.iload_n (pc' := 127) d_Model_commits_126 rfl rfl ?_
        refine VW.aload_n (pc' := 128) d_Model_commits_127 rfl rfl ?_
        refine VW.gI (ci := 11) (T := T11) (N := 94) (k := 16) (k' := 16) (pc' := 131) d_Model_commits_128 rfl lk_Model_285 in11 rfl rfl rfl rfl (hM.k rfl) (by first | assumption | (simp [up2] <;> rfl) | rfl) ?_
        refine VW.iast (pc' := 132) d_Model_commits_131 rfl (hM.k rfl) (by omega) (by omega) ?_
        exact VW.vret d_Model_commits_132 rfl (Nat.zero_le _) (Nat.zero_le _) (by first | (exfalso; omega) | exact ex_i (mcom_of (mcomR_b c26 c32) (by simp [cpyI, up2])) | exact ex_i (mcom_of (mcomR_a c26 c32) (by simp [cpyI, up2])) | exact ex_i (mcom_of (mcomR_c c49 c59) (by simp [cpyI, up2])) | exact ex_i (mcom_of (mcomR_d c49 c59) (by simp [cpyI, up2])))
      · refine VW.aload_n (pc' := 63) d_Model_commits_62 rfl rfl ?_
        refine VW.gP (ci := 11) (T := T11) (N := 94) (k := 14) (k' := 14) (pc' := 66) d_Model_commits_63 rfl lk_Model_46 in11 rfl rfl rfl rfl (hM.k rfl) (hM.p (r := some 214) 14 rfl rfl) ?_
        refine VW.bipush (pc' := 68) d_Model_commits_66 rfl (by decide) ?_
        refine VW.iload_n (pc' := 69) d_Model_commits_68 rfl rfl ?_
        refine VW.iadd (pc' := 70) d_Model_commits_69 rfl (by omega) ?_
        refine VW.ild (pc' := 71) d_Model_commits_70 rfl (hM.k rfl) (by omega) (by omega) (by first | assumption | (simp [up2] <;> rfl) | rfl) ?_
        refine VW.istore (pc' := 73) d_Model_commits_71 rfl rfl ?_
        refine VW.aload_n (pc' := 74) d_Model_commits_73 rfl rfl ?_
        refine VW.gP (ci := 11) (T := T11) (N := 94) (k := 14) (k' := 14) (pc' := 77) d_Model_commits_74 rfl lk_Model_46 in11 rfl rfl rfl rfl (hM.k rfl) (hM.p (r := some 214) 14 rfl rfl) ?_
        refine VW.bipush (pc' := 79) d_Model_commits_77 rfl (by decide) ?_
        refine VW.iload_n (pc' := 80) d_Model_commits_79 rfl rfl ?_
        refine VW.iadd (pc' := 81) d_Model_commits_80 rfl (by omega) ?_
        refine VW.dup2 (pc' := 82) d_Model_commits_81 rfl rfl rfl ?_
        refine VW.ild (pc' := 83) d_Model_commits_82 rfl (hM.k rfl) (by omega) (by omega) (by first | assumption | (simp [up2] <;> rfl) | rfl) ?_
        refine VW.iconst (pc' := 84) d_Model_commits_83 rfl (by decide) ?_
        refine VW.iadd (pc' := 85) d_Model_commits_84 rfl (by omega) ?_
        refine VW.iast (pc' := 86) d_Model_commits_85 rfl (hM.k rfl) (by omega) (by omega) ?_
        refine VW.aload_n (pc' := 87) d_Model_commits_86 rfl rfl ?_
        refine VW.aload_n (pc' := 88) d_Model_commits_87 rfl rfl ?_
        refine VW.gP (ci := 11) (T := T11) (N := 94) (k := 23) (k' := 23) (pc' := 91) d_Model_commits_88 rfl lk_Model_67 in11 rfl rfl rfl rfl (hM.k rfl) (hM.p (r := some 223) 23 rfl rfl) ?_
        refine VW.iload_n (pc' := 92) d_Model_commits_91 rfl rfl ?_
        refine VW.ild (pc' := 93) d_Model_commits_92 rfl (hM.k rfl) (by omega) (by omega) (by first | assumption | (simp [up2] <;> rfl) | rfl) ?_
        refine VW.iload (pc' := 95) d_Model_commits_93 rfl rfl ?_
        refine VW.iconst (pc' := 96) d_Model_commits_95 rfl (by decide) ?_
        refine VW.iload (pc' := 98) d_Model_commits_96 rfl rfl ?_
        refine VW.iload_n (pc' := 99) d_Model_commits_98 rfl rfl ?_
        refine VW.cV (ci := 11) (T := T11) (N := 94) (pc' := 102) d_Model_commits_99 rfl mv_Model_copiesRow lk_Model_277 rfl (hM.k rfl) rfl rfl rfl (Nat.le_refl _) (Nat.le_refl _) (sp_Model_copiesRow hM (by omega) (by omega) (by omega) (by omega) (by omega)) rfl rfl ?_
        refine VW.aload_n (pc' := 103) d_Model_commits_102 rfl rfl ?_
        refine VW.gP (ci := 11) (T := T11) (N := 94) (k := 17) (k' := 17) (pc' := 106) d_Model_commits_103 rfl lk_Model_52 in11 rfl rfl rfl rfl (hM.k rfl) (hM.p (r := some 217) 17 rfl rfl) ?_
        refine VW.sipush (pc' := 109) d_Model_commits_106 rfl (by decide) ?_
        refine VW.iload_n (pc' := 110) d_Model_commits_109 rfl rfl ?_
        refine VW.imul (pc' := 111) d_Model_commits_110 rfl (by omega) ?_
        refine VW.iload_n (pc' := 112) d_Model_commits_111 rfl rfl ?_
        refine VW.iadd (pc' := 113) d_Model_commits_112 rfl (by omega) ?_
        refine VW.sipush (pc' := 116) d_Model_commits_113 rfl (by decide) ?_
        refine VW.iadd (pc' := 117) d_Model_commits_116 rfl (by omega) ?_
        refine VW.aload_n (pc' := 118) d_Model_commits_117 rfl rfl ?_
        refine VW.gI (ci := 11) (T := T11) (N := 94) (k := 16) (k' := 16) (pc' := 121) d_Model_commits_118 rfl lk_Model_285 in11 rfl rfl rfl rfl (hM.k rfl) (by first | assumption | (simp [up2] <;> rfl) | rfl) ?_
        refine VW.iast (pc' := 122) d_Model_commits_121 rfl (hM.k rfl) (by omega) (by omega) ?_
        refine VW.aload_n (pc' := 123) d_Model_commits_122 rfl rfl ?_
        refine VW.gP (ci := 11) (T := T11) (N := 94) (k := 18) (k' := 18) (pc' := 126) d_Model_commits_123 rfl lk_Model_55 in11 rfl rfl rfl rfl (hM.k rfl) (hM.p (r := some 218) 18 rfl rfl) ?_
        refine VW.iload_n (pc' := 127) d_Model_commits_126 rfl rfl ?_
        refine VW.aload_n (pc' := 128) d_Model_commits_127 rfl rfl ?_
        refine VW.gI (ci := 11) (T := T11) (N := 94) (k := 16) (k' := 16) (pc' := 131) d_Model_commits_128 rfl lk_Model_285 in11 rfl rfl rfl rfl (hM.k rfl) (by first | assumption | (simp [up2] <;> rfl) | rfl) ?_
        refine VW.iast (pc' := 132) d_Model_commits_131 rfl (hM.k rfl) (by omega) (by omega) ?_
        exact VW.vret d_Model_commits_132 rfl (Nat.zero_le _) (Nat.zero_le _) (by first | (exfalso; omega) | exact ex_i (mcom_of (mcomR_b c26 c32) (by simp [cpyI, up2])) | exact ex_i (mcom_of (mcomR_a c26 c32) (by simp [cpyI, up2])) | exact ex_i (mcom_of (mcomR_c c49 c59) (by simp [cpyI, up2])) | exact ex_i (mcom_of (mcomR_d c49 c59) (by simp [cpyI, up2])))
  · refine VW.iload (pc' := 31) d_Model_commits_29 rfl rfl ?_
    refine VW.iconst (pc' := 32) d_Model_commits_31 rfl (by decide) ?_
    refine VW.icmp_eq (tgt := 46) (pc' := 35) d_Model_commits_32 rfl rfl (fun c32 => ?_) (fun c32 => ?_)
    · refine VW.iload (pc' := 48) d_Model_commits_46 rfl rfl ?_
      refine VW.iconst (pc' := 49) d_Model_commits_48 rfl (by decide) ?_
      refine VW.icmp_eq (tgt := 102) (pc' := 52) d_Model_commits_49 rfl rfl (fun c49 => ?_) (fun c49 => ?_)
      · refine VW.aload_n (pc' := 103) d_Model_commits_102 rfl rfl ?_
        refine VW.gP (ci := 11) (T := T11) (N := 94) (k := 17) (k' := 17) (pc' := 106) d_Model_commits_103 rfl lk_Model_52 in11 rfl rfl rfl rfl (hM.k rfl) (hM.p (r := some 217) 17 rfl rfl) ?_
        refine VW.sipush (pc' := 109) d_Model_commits_106 rfl (by decide) ?_
        refine VW.iload_n (pc' := 110) d_Model_commits_109 rfl rfl ?_
        refine VW.imul (pc' := 111) d_Model_commits_110 rfl (by omega) ?_
        refine VW.iload_n (pc' := 112) d_Model_commits_111 rfl rfl ?_
        refine VW.iadd (pc' := 113) d_Model_commits_112 rfl (by omega) ?_
        refine VW.sipush (pc' := 116) d_Model_commits_113 rfl (by decide) ?_
        refine VW.iadd (pc' := 117) d_Model_commits_116 rfl (by omega) ?_
        refine VW.aload_n (pc' := 118) d_Model_commits_117 rfl rfl ?_
        refine VW.gI (ci := 11) (T := T11) (N := 94) (k := 16) (k' := 16) (pc' := 121) d_Model_commits_118 rfl lk_Model_285 in11 rfl rfl rfl rfl (hM.k rfl) (by first | assumption | (simp [up2] <;> rfl) | rfl) ?_
        refine VW.iast (pc' := 122) d_Model_commits_121 rfl (hM.k rfl) (by omega) (by omega) ?_
        refine VW.aload_n (pc' := 123) d_Model_commits_122 rfl rfl ?_
        refine VW.gP (ci := 11) (T := T11) (N := 94) (k := 18) (k' := 18) (pc' := 126) d_Model_commits_123 rfl lk_Model_55 in11 rfl rfl rfl rfl (hM.k rfl) (hM.p (r := some 218) 18 rfl rfl) ?_
        refine VW.iload_n (pc' := 127) d_Model_commits_126 rfl rfl ?_
        refine VW.aload_n (pc' := 128) d_Model_commits_127 rfl rfl ?_
        refine VW.gI (ci := 11) (T := T11) (N := 94) (k := 16) (k' := 16) (pc' := 131) d_Model_commits_128 rfl lk_Model_285 in11 rfl rfl rfl rfl (hM.k rfl) (by first | assumption | (simp [up2] <;> rfl) | rfl) ?_
        refine VW.iast (pc' := 132) d_Model_commits_131 rfl (hM.k rfl) (by omega) (by omega) ?_
        exact VW.vret d_Model_commits_132 rfl (Nat.zero_le _) (Nat.zero_le _) (by first | (exfalso; omega) | exact ex_i (mcom_of (mcomR_b c26 c32) (by simp [cpyI, up2])) | exact ex_i (mcom_of (mcomR_a c26 c32) (by simp [cpyI, up2])) | exact ex_i (mcom_of (mcomR_c c49 c59) (by simp [cpyI, up2])) | exact ex_i (mcom_of (mcomR_d c49 c59) (by simp [cpyI, up2])))
      · refine VW.iload (pc' := 54) d_Model_commits_52 rfl rfl ?_
        refine VW.istore (pc' := 56) d_Model_commits_54 rfl rfl ?_
        refine VW.iload (pc' := 58) d_Model_commits_56 rfl rfl ?_
        refine VW.iconst (pc' := 59) d_Model_commits_58 rfl (by decide) ?_
        refine VW.icmp_ne (tgt := 86) (pc' := 62) d_Model_commits_59 rfl rfl (fun c59 => ?_) (fun c59 => ?_)
        · refine VW.aload_n (pc' := 87) d_Model_commits_86 rfl rfl ?_
          refine VW.aload_n (pc' := 88) d_Model_commits_87 rfl rfl ?_
          refine VW.gP (ci := 11) (T := T11) (N := 94) (k := 23) (k' := 23) (pc' := 91) d_Model_commits_88 rfl lk_Model_67 in11 rfl rfl rfl rfl (hM.k rfl) (hM.p (r := some 223) 23 rfl rfl) ?_
          refine VW.iload_n (pc' := 92) d_Model_commits_91 rfl rfl ?_
          refine VW.ild (pc' := 93) d_Model_commits_92 rfl (hM.k rfl) (by omega) (by omega) (by first | assumption | (simp [up2] <;> rfl) | rfl) ?_
          refine VW.iload (pc' := 95) d_Model_commits_93 rfl rfl ?_
          refine VW.iconst (pc' := 96) d_Model_commits_95 rfl (by decide) ?_
          refine VW.iload (pc' := 98) d_Model_commits_96 rfl rfl ?_
          refine VW.iload_n (pc' := 99) d_Model_commits_98 rfl rfl ?_
          refine VW.cV (ci := 11) (T := T11) (N := 94) (pc' := 102) d_Model_commits_99 rfl mv_Model_copiesRow lk_Model_277 rfl (hM.k rfl) rfl rfl rfl (Nat.le_refl _) (Nat.le_refl _) (sp_Model_copiesRow hM (by omega) (by omega) (by omega) (by omega) (by omega)) rfl rfl ?_
          refine VW.aload_n (pc' := 103) d_Model_commits_102 rfl rfl ?_
          refine VW.gP (ci := 11) (T := T11) (N := 94) (k := 17) (k' := 17) (pc' := 106) d_Model_commits_103 rfl lk_Model_52 in11 rfl rfl rfl rfl (hM.k rfl) (hM.p (r := some 217) 17 rfl rfl) ?_
          refine VW.sipush (pc' := 109) d_Model_commits_106 rfl (by decide) ?_
          refine VW.iload_n (pc' := 110) d_Model_commits_109 rfl rfl ?_
          refine VW.imul (pc' := 111) d_Model_commits_110 rfl (by omega) ?_
          refine VW.iload_n (pc' := 112) d_Model_commits_111 rfl rfl ?_
          refine VW.iadd (pc' := 113) d_Model_commits_112 rfl (by omega) ?_
          refine VW.sipush (pc' := 116) d_Model_commits_113 rfl (by decide) ?_
          refine VW.iadd (pc' := 117) d_Model_commits_116 rfl (by omega) ?_
          refine VW.aload_n (pc' := 118) d_Model_commits_117 rfl rfl ?_
          refine VW.gI (ci := 11) (T := T11) (N := 94) (k := 16) (k' := 16) (pc' := 121) d_Model_commits_118 rfl lk_Model_285 in11 rfl rfl rfl rfl (hM.k rfl) (by first | assumption | (simp [up2] <;> rfl) | rfl) ?_
          refine VW.iast (pc' := 122) d_Model_commits_121 rfl (hM.k rfl) (by omega) (by omega) ?_
          refine VW.aload_n (pc' := 123) d_Model_commits_122 rfl rfl ?_
          refine VW.gP (ci := 11) (T := T11) (N := 94) (k := 18) (k' := 18) (pc' := 126) d_Model_commits_123 rfl lk_Model_55 in11 rfl rfl rfl rfl (hM.k rfl) (hM.p (r := some 218) 18 rfl rfl) ?_
          refine VW.iload_n (pc' := 127) d_Model_commits_126 rfl rfl ?_
          refine VW.aload_n (pc' := 128) d_Model_commits_127 rfl rfl ?_
          refine VW.gI (ci := 11) (T := T11) (N := 94) (k := 16) (k' := 16) (pc' := 131) d_Model_commits_128 rfl lk_Model_285 in11 rfl rfl rfl rfl (hM.k rfl) (by first | assumption | (simp [up2] <;> rfl) | rfl) ?_
          refine VW.iast (pc' := 132) d_Model_commits_131 rfl (hM.k rfl) (by omega) (by omega) ?_
          exact VW.vret d_Model_commits_132 rfl (Nat.zero_le _) (Nat.zero_le _) (by first | (exfalso; omega) | exact ex_i (mcom_of (mcomR_b c26 c32) (by simp [cpyI, up2])) | exact ex_i (mcom_of (mcomR_a c26 c32) (by simp [cpyI, up2])) | exact ex_i (mcom_of (mcomR_c c49 c59) (by simp [cpyI, up2])) | exact ex_i (mcom_of (mcomR_d c49 c59) (by simp [cpyI, up2])))
        · refine VW.aload_n (pc' := 63) d_Model_commits_62 rfl rfl ?_
          refine VW.gP (ci := 11) (T := T11) (N := 94) (k := 14) (k' := 14) (pc' := 66) d_Model_commits_63 rfl lk_Model_46 in11 rfl rfl rfl rfl (hM.k rfl) (hM.p (r := some 214) 14 rfl rfl) ?_
          refine VW.bipush (pc' := 68) d_Model_commits_66 rfl (by decide) ?_
          refine VW.iload_n (pc' := 69) d_Model_commits_68 rfl rfl ?_
          refine VW.iadd (pc' := 70) d_Model_commits_69 rfl (by omega) ?_
          refine VW.ild (pc' := 71) d_Model_commits_70 rfl (hM.k rfl) (by omega) (by omega) (by first | assumption | (simp [up2] <;> rfl) | rfl) ?_
          refine VW.istore (pc' := 73) d_Model_commits_71 rfl rfl ?_
          refine VW.aload_n (pc' := 74) d_Model_commits_73 rfl rfl ?_
          refine VW.gP (ci := 11) (T := T11) (N := 94) (k := 14) (k' := 14) (pc' := 77) d_Model_commits_74 rfl lk_Model_46 in11 rfl rfl rfl rfl (hM.k rfl) (hM.p (r := some 214) 14 rfl rfl) ?_
          refine VW.bipush (pc' := 79) d_Model_commits_77 rfl (by decide) ?_
          refine VW.iload_n (pc' := 80) d_Model_commits_79 rfl rfl ?_
          refine VW.iadd (pc' := 81) d_Model_commits_80 rfl (by omega) ?_
          refine VW.dup2 (pc' := 82) d_Model_commits_81 rfl rfl rfl ?_
          refine VW.ild (pc' := 83) d_Model_commits_82 rfl (hM.k rfl) (by omega) (by omega) (by first | assumption | (simp [up2] <;> rfl) | rfl) ?_
          refine VW.iconst (pc' := 84) d_Model_commits_83 rfl (by decide) ?_
          refine VW.iadd (pc' := 85) d_Model_commits_84 rfl (by omega) ?_
          refine VW.iast (pc' := 86) d_Model_commits_85 rfl (hM.k rfl) (by omega) (by omega) ?_
          refine VW.aload_n (pc' := 87) d_Model_commits_86 rfl rfl ?_
          refine VW.aload_n (pc' := 88) d_Model_commits_87 rfl rfl ?_
          refine VW.gP (ci := 11) (T := T11) (N := 94) (k := 23) (k' := 23) (pc' := 91) d_Model_commits_88 rfl lk_Model_67 in11 rfl rfl rfl rfl (hM.k rfl) (hM.p (r := some 223) 23 rfl rfl) ?_
          refine VW.iload_n (pc' := 92) d_Model_commits_91 rfl rfl ?_
          refine VW.ild (pc' := 93) d_Model_commits_92 rfl (hM.k rfl) (by omega) (by omega) (by first | assumption | (simp [up2] <;> rfl) | rfl) ?_
          refine VW.iload (pc' := 95) d_Model_commits_93 rfl rfl ?_
          refine VW.iconst (pc' := 96) d_Model_commits_95 rfl (by decide) ?_
          refine VW.iload (pc' := 98) d_Model_commits_96 rfl rfl ?_
          refine VW.iload_n (pc' := 99) d_Model_commits_98 rfl rfl ?_
          refine VW.cV (ci := 11) (T := T11) (N := 94) (pc' := 102) d_Model_commits_99 rfl mv_Model_copiesRow lk_Model_277 rfl (hM.k rfl) rfl rfl rfl (Nat.le_refl _) (Nat.le_refl _) (sp_Model_copiesRow hM (by omega) (by omega) (by omega) (by omega) (by omega)) rfl rfl ?_
          refine VW.aload_n (pc' := 103) d_Model_commits_102 rfl rfl ?_
          refine VW.gP (ci := 11) (T := T11) (N := 94) (k := 17) (k' := 17) (pc' := 106) d_Model_commits_103 rfl lk_Model_52 in11 rfl rfl rfl rfl (hM.k rfl) (hM.p (r := some 217) 17 rfl rfl) ?_
          refine VW.sipush (pc' := 109) d_Model_commits_106 rfl (by decide) ?_
          refine VW.iload_n (pc' := 110) d_Model_commits_109 rfl rfl ?_
          refine VW.imul (pc' := 111) d_Model_commits_110 rfl (by omega) ?_
          refine VW.iload_n (pc' := 112) d_Model_commits_111 rfl rfl ?_
          refine VW.iadd (pc' := 113) d_Model_commits_112 rfl (by omega) ?_
          refine VW.sipush (pc' := 116) d_Model_commits_113 rfl (by decide) ?_
          refine VW.iadd (pc' := 117) d_Model_commits_116 rfl (by omega) ?_
          refine VW.aload_n (pc' := 118) d_Model_commits_117 rfl rfl ?_
          refine VW.gI (ci := 11) (T := T11) (N := 94) (k := 16) (k' := 16) (pc' := 121) d_Model_commits_118 rfl lk_Model_285 in11 rfl rfl rfl rfl (hM.k rfl) (by first | assumption | (simp [up2] <;> rfl) | rfl) ?_
          refine VW.iast (pc' := 122) d_Model_commits_121 rfl (hM.k rfl) (by omega) (by omega) ?_
          refine VW.aload_n (pc' := 123) d_Model_commits_122 rfl rfl ?_
          refine VW.gP (ci := 11) (T := T11) (N := 94) (k := 18) (k' := 18) (pc' := 126) d_Model_commits_123 rfl lk_Model_55 in11 rfl rfl rfl rfl (hM.k rfl) (hM.p (r := some 218) 18 rfl rfl) ?_
          refine VW.iload_n (pc' := 127) d_Model_commits_126 rfl rfl ?_
          refine VW.aload_n (pc' := 128) d_Model_commits_127 rfl rfl ?_
          refine VW.gI (ci := 11) (T := T11) (N := 94) (k := 16) (k' := 16) (pc' := 131) d_Model_commits_128 rfl lk_Model_285 in11 rfl rfl rfl rfl (hM.k rfl) (by first | assumption | (simp [up2] <;> rfl) | rfl) ?_
          refine VW.iast (pc' := 132) d_Model_commits_131 rfl (hM.k rfl) (by omega) (by omega) ?_
          exact VW.vret d_Model_commits_132 rfl (Nat.zero_le _) (Nat.zero_le _) (by first | (exfalso; omega) | exact ex_i (mcom_of (mcomR_b c26 c32) (by simp [cpyI, up2])) | exact ex_i (mcom_of (mcomR_a c26 c32) (by simp [cpyI, up2])) | exact ex_i (mcom_of (mcomR_c c49 c59) (by simp [cpyI, up2])) | exact ex_i (mcom_of (mcomR_d c49 c59) (by simp [cpyI, up2])))
    · refine VW.aload_n (pc' := 36) d_Model_commits_35 rfl rfl ?_
      refine VW.iconst (pc' := 37) d_Model_commits_36 rfl (by decide) ?_
      refine VW.iload_n (pc' := 38) d_Model_commits_37 rfl rfl ?_
      refine VW.iload (pc' := 40) d_Model_commits_38 rfl rfl ?_
      refine VW.cV (ci := 11) (T := T11) (N := 94) (pc' := 43) d_Model_commits_40 rfl mv_Model_takesOut lk_Model_344 rfl (hM.k rfl) rfl rfl rfl (Nat.le_refl _) (Nat.le_refl _) (sp_Model_takesOut hM (by omega) (by omega) (by omega)) rfl rfl ?_
      refine VW.goto (pc' := 102) d_Model_commits_43 rfl ?_
      refine VW.aload_n (pc' := 103) d_Model_commits_102 rfl rfl ?_
      refine VW.gP (ci := 11) (T := T11) (N := 94) (k := 17) (k' := 17) (pc' := 106) d_Model_commits_103 rfl lk_Model_52 in11 rfl rfl rfl rfl (hM.k rfl) (hM.p (r := some 217) 17 rfl rfl) ?_
      refine VW.sipush (pc' := 109) d_Model_commits_106 rfl (by decide) ?_
      refine VW.iload_n (pc' := 110) d_Model_commits_109 rfl rfl ?_
      refine VW.imul (pc' := 111) d_Model_commits_110 rfl (by omega) ?_
      refine VW.iload_n (pc' := 112) d_Model_commits_111 rfl rfl ?_
      refine VW.iadd (pc' := 113) d_Model_commits_112 rfl (by omega) ?_
      refine VW.sipush (pc' := 116) d_Model_commits_113 rfl (by decide) ?_
      refine VW.iadd (pc' := 117) d_Model_commits_116 rfl (by omega) ?_
      refine VW.aload_n (pc' := 118) d_Model_commits_117 rfl rfl ?_
      refine VW.gI (ci := 11) (T := T11) (N := 94) (k := 16) (k' := 16) (pc' := 121) d_Model_commits_118 rfl lk_Model_285 in11 rfl rfl rfl rfl (hM.k rfl) (by first | assumption | (simp [up2] <;> rfl) | rfl) ?_
      refine VW.iast (pc' := 122) d_Model_commits_121 rfl (hM.k rfl) (by omega) (by omega) ?_
      refine VW.aload_n (pc' := 123) d_Model_commits_122 rfl rfl ?_
      refine VW.gP (ci := 11) (T := T11) (N := 94) (k := 18) (k' := 18) (pc' := 126) d_Model_commits_123 rfl lk_Model_55 in11 rfl rfl rfl rfl (hM.k rfl) (hM.p (r := some 218) 18 rfl rfl) ?_
      refine VW.iload_n (pc' := 127) d_Model_commits_126 rfl rfl ?_
      refine VW.aload_n (pc' := 128) d_Model_commits_127 rfl rfl ?_
      refine VW.gI (ci := 11) (T := T11) (N := 94) (k := 16) (k' := 16) (pc' := 131) d_Model_commits_128 rfl lk_Model_285 in11 rfl rfl rfl rfl (hM.k rfl) (by first | assumption | (simp [up2] <;> rfl) | rfl) ?_
      refine VW.iast (pc' := 132) d_Model_commits_131 rfl (hM.k rfl) (by omega) (by omega) ?_
      exact VW.vret d_Model_commits_132 rfl (Nat.zero_le _) (Nat.zero_le _) (by first | (exfalso; omega) | exact ex_i (mcom_of (mcomR_b c26 c32) (by simp [cpyI, up2])) | exact ex_i (mcom_of (mcomR_a c26 c32) (by simp [cpyI, up2])) | exact ex_i (mcom_of (mcomR_c c49 c59) (by simp [cpyI, up2])) | exact ex_i (mcom_of (mcomR_d c49 c59) (by simp [cpyI, up2])))
theorem mcom_fr {i t key : Int} (o : Nat) (k : Int) (h1 : o ≠ 214 ∨ k < 24) (h2 : o ≠ 215) (h3 : o ≠ 217) (h4 : o ≠ 218) (h5 : 0 ≤ t) : mcom I i t key o k = I o k := by
  have e : ∀ a b c d, cpyI (up2 I 214 (6 * 4 + t) a) 215 b 215 c d o k = I o k := fun a b c d => by
    unfold cpyI up2
    rw [if_neg (fun z => h2 z.1), if_neg (fun z => by omega)]
  have e2 : ∀ a b c d, cpyI (up2 I 214 (24 + t) a) 215 b 215 c d o k = I o k := fun a b c d => by
    unfold cpyI up2
    rw [if_neg (fun z => h2 z.1), if_neg (fun z => by omega)]
  unfold mcom
  rw [up2_o _ _ _ _ h4, up2_o _ _ _ _ h3]
  by_cases a : mfind I (I 223 i) t key = -1
  · by_cases b : mfind I 4 t key = -1
    · rw [mcomR_a a b]
    · rw [mcomR_b a b]; exact e _ _ _ _
  · by_cases b : mfind I 4 t key = -1
    · rw [mcomR_c a b]; exact e2 _ _ _ _
    · rw [mcomR_d a b]; exact if_neg (fun z => h2 z.1)
/-- the writes of i among the first n records go to what is committed -/
noncomputable def mCm (i : Int) : Nat → IT → IT
  | 0, S => S
  | n + 1, S => if bI (S 246 n = 0 ∧ S 247 n = i) = 1 then mcom (mCm i n S) i (S 248 n) (S 249 n) else mCm i n S
theorem mCm_yes {i : Int} {n : Nat} {S : IT} (h : S 246 n = 0 ∧ S 247 n = i) : mcom (mCm i n S) i (S 248 n) (S 249 n) = mCm i (n + 1) S := (if_pos (bI1 h)).symm
theorem mCm_no {i : Int} {n : Nat} {S : IT} (h : ¬ (S 246 n = 0 ∧ S 247 n = i)) : mCm i n S = mCm i (n + 1) S := (if_neg (by rw [bI0 h]; decide)).symm
theorem mCm_fr {i : Int} {S : IT} (hr : ∀ j : Int, S 246 j = 0 → 0 ≤ S 248 j) (n : Nat) : ∀ (o : Nat) (k : Int), (o ≠ 214 ∨ k < 24) → o ≠ 215 → o ≠ 217 → o ≠ 218 → mCm i n S o k = S o k := by
  induction n with
  | zero => intro o k h1 h2 h3 h4; rfl
  | succ n ih =>
    intro o k h1 h2 h3 h4
    by_cases g : S 246 n = 0 ∧ S 247 n = i
    · rw [← mCm_yes g, mcom_fr o k h1 h2 h3 h4 (hr n g.1)]; exact ih o k h1 h2 h3 h4
    · rw [← mCm_no g]; exact ih o k h1 h2 h3 h4
/-- what a transaction that commits leaves -/
noncomputable def mCmI (S : IT) (i : Int) : IT := mCm i (S 100 44).toNat (up2 S 100 16 (S 100 16 + 1))
noncomputable def mCmE (S : IT) (i : Int) : IT := mends (up2 (mnotes (mCmI S i) 1 i (-2147483648) (-2147483648)) 100 45 (S 100 44 + 1)) i 2
def mFail (S : IT) (i : Int) : Prop := mOld S i ∨ mTooMuch S i
def CmOK (S : IT) (i : Int) : Prop := (0 ≤ S 100 44 ∧ S 100 44 < 16384) ∧ (0 ≤ S 100 16 ∧ S 100 16 < 100000) ∧ ((0 ≤ S 233 i ∧ S 233 i ≤ 2048) ∧ ∀ j, 0 ≤ S 234 j ∧ S 234 j < 6) ∧ (∀ j : Int, S 246 j = 0 → (0 ≤ S 248 j ∧ S 248 j < 6) ∧ (-1000 ≤ S 249 j ∧ S 249 j ≤ 1000)) ∧ (∀ m t : Nat, m ≤ (S 100 44).toNat → t < 6 → 0 ≤ mCm i m (up2 S 100 16 (S 100 16 + 1)) 214 (24 + t) ∧ mCm i m (up2 S 100 16 (S 100 16 + 1)) 214 (24 + t) ≤ 63) ∧ ((mAb i (S 100 44).toNat S 0).1 100 44 < 16384)
theorem CmOK.h44 {S : IT} {i : Int} (h : CmOK S i) : 0 ≤ S 100 44 ∧ S 100 44 < 16384 := h.1
theorem CmOK.ck {S : IT} {i : Int} (h : CmOK S i) : 0 ≤ S 100 16 ∧ S 100 16 < 100000 := h.2.1
theorem CmOK.rd {S : IT} {i : Int} (h : CmOK S i) : (0 ≤ S 233 i ∧ S 233 i ≤ 2048) ∧ ∀ j, 0 ≤ S 234 j ∧ S 234 j < 6 := h.2.2.1
theorem CmOK.rec {S : IT} {i : Int} (h : CmOK S i) : ∀ j : Int, S 246 j = 0 → (0 ≤ S 248 j ∧ S 248 j < 6) ∧ (-1000 ≤ S 249 j ∧ S 249 j ≤ 1000) := h.2.2.2.1
theorem CmOK.bs {S : IT} {i : Int} (h : CmOK S i) : ∀ m t : Nat, m ≤ (S 100 44).toNat → t < 6 → 0 ≤ mCm i m (up2 S 100 16 (S 100 16 + 1)) 214 (24 + t) ∧ mCm i m (up2 S 100 16 (S 100 16 + 1)) 214 (24 + t) ≤ 63 := h.2.2.2.2.1
theorem CmOK.ab {S : IT} {i : Int} (h : CmOK S i) : (mAb i (S 100 44).toNat S 0).1 100 44 < 16384 := h.2.2.2.2.2
noncomputable def cd_Model_commit (I : IT) (i : Int) : Int := if bI (0 ≤ i ∧ i < I 100 19) = 0 then 1 else if I 221 i = 0 then 0 else 2
noncomputable def f_Model_commit (n : Nat) (i : Int) (S : IT) : IT × Int := if bI (mFail S i) = 1 then (mSettle n (mAborts S i), 3) else (mSettle n (mCmE S i), 0)
noncomputable def r_Model_commit (n : Nat) (I : IT) (i : Int) : IT × Int := callR (cd_Model_commit I i) I (f_Model_commit n i)
theorem sp_Model_commit {i : Int} {n : Nat} (hM : MW K P) (hb : MB I) (hp : cd_Model_commit I i = 0 → CmOK (up2 I 100 93 0) i ∧ (mFail (up2 I 100 93 0) i → SetOK n (mAborts (up2 I 100 93 0) i)) ∧ (¬ mFail (up2 I 100 93 0) i → SetOK n (mCmE (up2 I 100 93 0) i))) : Sp m_Model_commit false (rmv 7 174) (ex K P J (r_Model_commit n I i).1 (.inl (some (vI (r_Model_commit n I i).2)))) K P J I [vR (some 100), vI i] := by
  refine Sp.ofV (by decide) (Or.inr rfl) rfl ?_
  have rest : ∀ a : Int, ∀ S : IT, (S = up2 I 100 93 0) → (cd_Model_commit I i = 0) → ((bI (0 ≤ i ∧ i < I 100 19) ≠ 0)) → VW m_Model_commit false (rmv 7 174) (ex K P J (f_Model_commit n i S).1 (.inl (some (vI (f_Model_commit n i S).2)))) K P J S 0 0 37 [(0, vR (some 100)), (1, vI i), (2, vI a)] [] := by
    intro a S eS hcd q
    have u : ∀ (o : Nat) (k : Int), (o ≠ 100 ∨ k ≠ 93) → S o k = I o k := fun o k h => by rw [eS]; exact if_neg (fun z => h.elim (fun y => y z.1) (fun y => y z.2))
    have q2 := bIn q
    have b0 := hb.trn
    have hp1 := hp hcd
    rw [← eS] at hp1
    obtain ⟨hc, hp2, hp3⟩ := hp1
    have hbS := hb.u93 u
    have p0 := hbS.pla i
    have h44 := hc.h44
    have hck := hc.ck
    clear u q hp hcd eS
    have eF1 : mFail S i → f_Model_commit n i S = (mSettle n (mAborts S i), 3) := fun z => if_pos (bI1 z)
    have eF0 : ¬ mFail S i → f_Model_commit n i S = (mSettle n (mCmE S i), 0) := fun z => if_neg (by rw [bI0 z]; decide)
    have bad : mFail S i → VW m_Model_commit false (rmv 7 174) (ex K P J (f_Model_commit n i S).1 (.inl (some (vI (f_Model_commit n i S).2)))) K P J S 0 0 58 [(0, vR (some 100)), (1, vI i), (2, vI a)] [vI 1] := by
      intro z
      refine VW.istore_n (pc' := 59) d_Model_commit_58 rfl rfl ?_
      refine VW.iload_n (pc' := 60) d_Model_commit_59 rfl rfl ?_
      refine VW.if_eq (tgt := 72) (pc' := 63) d_Model_commit_60 rfl rfl (fun c60 => absurd c60 (by decide)) (fun _ => ?_)
      refine VW.aload_n (pc' := 64) d_Model_commit_63 rfl rfl ?_
      refine VW.iload_n (pc' := 65) d_Model_commit_64 rfl rfl ?_
      refine VW.cV (ci := 11) (T := T11) (N := 94) (pc' := 68) d_Model_commit_65 rfl mv_Model_aborts lk_Model_359 rfl (hM.k rfl) rfl rfl rfl (Nat.le_refl _) (Nat.le_refl _) (sp_Model_aborts hM (by omega) p0 h44.1 hc.ab) rfl rfl ?_
      refine VW.pop (pc' := 69) d_Model_commit_68 rfl rfl ?_
      refine VW.goto (pc' := 164) d_Model_commit_69 rfl ?_
      refine VW.aload_n (pc' := 165) d_Model_commit_164 rfl rfl ?_
      refine VW.cV (ci := 11) (T := T11) (N := 94) (pc' := 168) d_Model_commit_165 rfl mv_Model_settles lk_Model_373 rfl (hM.k rfl) rfl rfl rfl (Nat.le_refl _) (Nat.le_refl _) (sp_Model_settles (n := n) hM (hp2 z)) rfl rfl ?_
      refine VW.iload_n (pc' := 169) d_Model_commit_168 rfl rfl ?_
      refine VW.if_eq (tgt := 176) (pc' := 172) d_Model_commit_169 rfl rfl (fun c169 => absurd c169 (by decide)) (fun _ => ?_)
      refine VW.iconst (pc' := 173) d_Model_commit_172 rfl (by decide) ?_
      refine VW.goto (pc' := 177) d_Model_commit_173 rfl ?_
      exact VW.iret d_Model_commit_177 rfl rfl (Nat.zero_le _) (Nat.zero_le _) (ex_r (eF1 z))
    have good : ¬ mFail S i → VW m_Model_commit false (rmv 7 174) (ex K P J (f_Model_commit n i S).1 (.inl (some (vI (f_Model_commit n i S).2)))) K P J S 0 0 58 [(0, vR (some 100)), (1, vI i), (2, vI a)] [vI 0] := by
      intro z
      have hs := hp3 z
      have eF := eF0 z
      clear eF1 eF0 hp2 hp3 bad
      have hr : ∀ j : Int, up2 S 100 16 (S 100 16 + 1) 246 j = 0 → 0 ≤ up2 S 100 16 (S 100 16 + 1) 248 j := fun j y => (hc.rec j y).1.1
      have loop : ∀ (l m : Nat), m + l = S 100 44 → VW m_Model_commit false (rmv 7 174) (ex K P J (f_Model_commit n i S).1 (.inl (some (vI (f_Model_commit n i S).2)))) K P J (mCm i m (up2 S 100 16 (S 100 16 + 1))) 0 0 85 [(0, vR (some 100)), (1, vI i), (2, vI a), (3, vI 0), (4, vI (m : Int))] [] := by
        intro l
        induction l with
        | zero =>
          intro m hm
          have em : (S 100 44).toNat = m := by omega
          have fr := mCm_fr (i := i) hr m
          have e44 : mCm i m (up2 S 100 16 (S 100 16 + 1)) 100 44 = S 100 44 := (fr 100 44 (by decide) (by decide) (by decide) (by decide)).trans (up2_k _ _ _ _ (by decide))
          have e223 : mCm i m (up2 S 100 16 (S 100 16 + 1)) 223 i = S 223 i := fr 223 i (Or.inl (by decide)) (by decide) (by decide) (by decide)
          have pre : ∀ T, T = mCmI S i → T 100 44 = S 100 44 → T 223 i = S 223 i → VW m_Model_commit false (rmv 7 174) (ex K P J (f_Model_commit n i S).1 (.inl (some (vI (f_Model_commit n i S).2)))) K P J T 0 0 140 [(0, vR (some 100)), (1, vI i), (2, vI a), (3, vI 0), (4, vI (m : Int))] [] := by
            intro T eT e44 e223
            have eE : mCmE S i = mends (up2 (mnotes T 1 i (-2147483648) (-2147483648)) 100 45 (T 100 44 + 1)) i 2 := by unfold mCmE; rw [eT]; rw [← eT, e44]
            rw [eE] at hs eF
            have n223 : up2 (mnotes T 1 i (-2147483648) (-2147483648)) 100 45 (T 100 44 + 1) 223 i = T 223 i := (up2_o _ _ _ _ (by decide)).trans (mnotes_223 _ _ _ _ _ _)
            clear eE eT hc
            refine VW.aload_n (pc' := 141) d_Model_commit_140 rfl rfl ?_
            refine VW.iconst (pc' := 142) d_Model_commit_141 rfl (by decide) ?_
            refine VW.iload_n (pc' := 143) d_Model_commit_142 rfl rfl ?_
            refine VW.ldc (pc' := 145) (z := -2147483648) d_Model_commit_143 rfl lk_Model_246 (by decide) (by decide) ?_
            refine VW.ldc (pc' := 147) (z := -2147483648) d_Model_commit_145 rfl lk_Model_246 (by decide) (by decide) ?_
            refine VW.cV (ci := 11) (T := T11) (N := 94) (pc' := 150) d_Model_commit_147 rfl mv_Model_notes lk_Model_297 rfl (hM.k rfl) rfl rfl rfl (Nat.le_refl _) (Nat.le_refl _) (sp_Model_notes hM (by omega) (by omega)) rfl rfl ?_
            refine VW.aload_n (pc' := 151) d_Model_commit_150 rfl rfl ?_
            refine VW.aload_n (pc' := 152) d_Model_commit_151 rfl rfl ?_
            refine VW.gI (ci := 11) (T := T11) (N := 94) (k := 44) (k' := 44) (pc' := 155) d_Model_commit_152 rfl lk_Model_294 in11 rfl rfl rfl rfl (hM.k rfl) (by first | exact mnotes_44 _ _ _ _ _ | rfl) ?_
            refine VW.pI (ci := 11) (T := T11) (N := 94) (k := 45) (k' := 45) (ty := ty11) (pc' := 158) d_Model_commit_155 rfl lk_Model_394 in11 tk11 nm11 rfl rfl rfl rfl rfl rfl (hM.k rfl) ?_
            refine VW.aload_n (pc' := 159) d_Model_commit_158 rfl rfl ?_
            refine VW.iload_n (pc' := 160) d_Model_commit_159 rfl rfl ?_
            refine VW.iconst (pc' := 161) d_Model_commit_160 rfl (by decide) ?_
            refine VW.cV (ci := 11) (T := T11) (N := 94) (pc' := 164) d_Model_commit_161 rfl mv_Model_ends lk_Model_301 rfl (hM.k rfl) rfl rfl rfl (Nat.le_refl _) (Nat.le_refl _) (sp_Model_ends hM (by omega) (by omega)) rfl rfl ?_
            refine VW.aload_n (pc' := 165) d_Model_commit_164 rfl rfl ?_
            refine VW.cV (ci := 11) (T := T11) (N := 94) (pc' := 168) d_Model_commit_165 rfl mv_Model_settles lk_Model_373 rfl (hM.k rfl) rfl rfl rfl (Nat.le_refl _) (Nat.le_refl _) (sp_Model_settles (n := n) hM hs) rfl rfl ?_
            refine VW.iload_n (pc' := 169) d_Model_commit_168 rfl rfl ?_
            refine VW.if_eq (tgt := 176) (pc' := 172) d_Model_commit_169 rfl rfl (fun _ => ?_) (fun c169 => absurd c169 (by decide))
            refine VW.iconst (pc' := 177) d_Model_commit_176 rfl (by decide) ?_
            exact VW.iret d_Model_commit_177 rfl rfl (Nat.zero_le _) (Nat.zero_le _) (ex_r eF)
          rw [← em] at pre e44 e223 ⊢
          refine VW.iload (pc' := 87) d_Model_commit_85 rfl rfl ?_
          refine VW.aload_n (pc' := 88) d_Model_commit_87 rfl rfl ?_
          refine VW.gI (ci := 11) (T := T11) (N := 94) (k := 44) (k' := 44) (pc' := 91) d_Model_commit_88 rfl lk_Model_294 in11 rfl rfl rfl rfl (hM.k rfl) (by first | exact e44 | rfl) ?_
          refine VW.icmp_ge (tgt := 140) (pc' := 94) d_Model_commit_91 rfl rfl (fun c91 => ?_) (fun c91 => ?_)
          · refine VW.nrm ?_
            exact pre _ rfl e44 e223
          · exfalso; omega
        | succ l ih =>
          intro m hm
          have fr := mCm_fr (i := i) hr m
          have e44 : mCm i m (up2 S 100 16 (S 100 16 + 1)) 100 44 = S 100 44 := (fr 100 44 (by decide) (by decide) (by decide) (by decide)).trans (up2_k _ _ _ _ (by decide))
          have fo : ∀ (o : Nat) (k : Int), (o ≠ 214 ∨ k < 24) → o ≠ 100 → o ≠ 215 → o ≠ 217 → o ≠ 218 → mCm i m (up2 S 100 16 (S 100 16 + 1)) o k = S o k := fun o k h1 h2 h3 h4 h5 => (fr o k h1 h3 h4 h5).trans (up2_o _ _ _ _ h2)
          have e246 := fo 246 m (Or.inl (by decide)) (by decide) (by decide) (by decide) (by decide)
          have e247 := fo 247 m (Or.inl (by decide)) (by decide) (by decide) (by decide) (by decide)
          have e248 := fo 248 m (Or.inl (by decide)) (by decide) (by decide) (by decide) (by decide)
          have e249 := fo 249 m (Or.inl (by decide)) (by decide) (by decide) (by decide) (by decide)
          have e223 := fo 223 i (Or.inl (by decide)) (by decide) (by decide) (by decide) (by decide)
          have bs := hc.bs m
          have hrm := hc.rec m
          have own : ∀ t : Int, 0 ≤ t → t < 6 → mCm i m (up2 S 100 16 (S 100 16 + 1)) 214 (6 * mCm i m (up2 S 100 16 (S 100 16 + 1)) 223 i + t) = S 214 (6 * S 223 i + t) := fun t h1 h2 => by rw [e223]; exact fo 214 _ (Or.inr (by omega)) (by decide) (by decide) (by decide) (by decide)
          have ih1 := ih (m + 1) (by omega)
          have em : ((m + 1 : Nat) : Int) = (m : Int) + 1 := by omega
          rw [em] at ih1
          have yes : S 246 m = 0 → S 247 m = i → VW m_Model_commit false (rmv 7 174) (ex K P J (f_Model_commit n i S).1 (.inl (some (vI (f_Model_commit n i S).2)))) K P J (mcom (mCm i m (up2 S 100 16 (S 100 16 + 1))) i (S 248 m) (S 249 m)) 0 0 85 [(0, vR (some 100)), (1, vI i), (2, vI a), (3, vI 0), (4, vI ((m : Int) + 1))] [] := fun y1 y2 => by
            have w := mCm_yes (S := up2 S 100 16 (S 100 16 + 1)) (n := m) (i := i) ⟨y1, y2⟩
            rw [← w] at ih1
            exact ih1
          have no : ¬ (S 246 m = 0 ∧ S 247 m = i) → VW m_Model_commit false (rmv 7 174) (ex K P J (f_Model_commit n i S).1 (.inl (some (vI (f_Model_commit n i S).2)))) K P J (mCm i m (up2 S 100 16 (S 100 16 + 1))) 0 0 85 [(0, vR (some 100)), (1, vI i), (2, vI a), (3, vI 0), (4, vI ((m : Int) + 1))] [] := fun y => by
            have w := mCm_no (S := up2 S 100 16 (S 100 16 + 1)) (n := m) (i := i) y
            rw [← w] at ih1
            exact ih1
          clear ih ih1 fr fo hs
          generalize mCm i m (up2 S 100 16 (S 100 16 + 1)) = T at *
          have cT : S 246 m = 0 → Sp m_Model_commits false (rmv 3 73) (ex K P J (mcom T i (S 248 m) (S 249 m)) (.inl none)) K P J T [vR (some 100), vI i, vI (S 248 m), vI (S 249 m)] := fun y => by
            have z1 := hrm y
            have z2 := bs (S 248 m).toNat (by omega) (by omega)
            have z3 := hbS.row (6 * S 223 i + S 248 m)
            rw [show (24 + ((S 248 m).toNat : Int)) = 24 + S 248 m by omega] at z2
            exact sp_commits hM (by omega) (by rw [own _ (by omega) (by omega)]; omega) z2 (by omega) z1.1 z1.2
          clear hrm bs own hc hr
          refine VW.iload (pc' := 87) d_Model_commit_85 rfl rfl ?_
          refine VW.aload_n (pc' := 88) d_Model_commit_87 rfl rfl ?_
          refine VW.gI (ci := 11) (T := T11) (N := 94) (k := 44) (k' := 44) (pc' := 91) d_Model_commit_88 rfl lk_Model_294 in11 rfl rfl rfl rfl (hM.k rfl) (by first | exact e44 | exact e246 | exact e247 | exact e248 | exact e249 | rfl) ?_
          refine VW.icmp_ge (tgt := 140) (pc' := 94) d_Model_commit_91 rfl rfl (fun c91 => ?_) (fun c91 => ?_)
          · exfalso; omega
          · refine VW.aload_n (pc' := 95) d_Model_commit_94 rfl rfl ?_
            refine VW.gP (ci := 11) (T := T11) (N := 94) (k := 46) (k' := 46) (pc' := 98) d_Model_commit_95 rfl lk_Model_126 in11 rfl rfl rfl rfl (hM.k rfl) (hM.p (r := some 246) 46 rfl rfl) ?_
            refine VW.iload (pc' := 100) d_Model_commit_98 rfl rfl ?_
            refine VW.ild (pc' := 101) d_Model_commit_100 rfl (hM.k rfl) (by omega) (by omega) (by first | exact e44 | exact e246 | exact e247 | exact e248 | exact e249 | rfl) ?_
            refine VW.if_ne (tgt := 134) (pc' := 104) d_Model_commit_101 rfl rfl (fun c101 => ?_) (fun c101 => ?_)
            · try have e101 := bIn c101
              refine VW.iinc (pc' := 137) d_Model_commit_134 rfl rfl rfl (by omega) ?_
              refine VW.goto (pc' := 85) d_Model_commit_137 rfl ?_
              refine VW.nrm ?_
              first | exact yes c101 c112 | exact no (fun y => c101 y.1) | exact no (fun y => c112 y.2)
            · try have e101 := bIe c101
              refine VW.aload_n (pc' := 105) d_Model_commit_104 rfl rfl ?_
              refine VW.gP (ci := 11) (T := T11) (N := 94) (k := 47) (k' := 47) (pc' := 108) d_Model_commit_105 rfl lk_Model_129 in11 rfl rfl rfl rfl (hM.k rfl) (hM.p (r := some 247) 47 rfl rfl) ?_
              refine VW.iload (pc' := 110) d_Model_commit_108 rfl rfl ?_
              refine VW.ild (pc' := 111) d_Model_commit_110 rfl (hM.k rfl) (by omega) (by omega) (by first | exact e44 | exact e246 | exact e247 | exact e248 | exact e249 | rfl) ?_
              refine VW.iload_n (pc' := 112) d_Model_commit_111 rfl rfl ?_
              refine VW.icmp_ne (tgt := 134) (pc' := 115) d_Model_commit_112 rfl rfl (fun c112 => ?_) (fun c112 => ?_)
              · refine VW.iinc (pc' := 137) d_Model_commit_134 rfl rfl rfl (by omega) ?_
                refine VW.goto (pc' := 85) d_Model_commit_137 rfl ?_
                refine VW.nrm ?_
                first | exact yes c101 c112 | exact no (fun y => c101 y.1) | exact no (fun y => c112 y.2)
              · refine VW.aload_n (pc' := 116) d_Model_commit_115 rfl rfl ?_
                refine VW.iload_n (pc' := 117) d_Model_commit_116 rfl rfl ?_
                refine VW.aload_n (pc' := 118) d_Model_commit_117 rfl rfl ?_
                refine VW.gP (ci := 11) (T := T11) (N := 94) (k := 48) (k' := 48) (pc' := 121) d_Model_commit_118 rfl lk_Model_132 in11 rfl rfl rfl rfl (hM.k rfl) (hM.p (r := some 248) 48 rfl rfl) ?_
                refine VW.iload (pc' := 123) d_Model_commit_121 rfl rfl ?_
                refine VW.ild (pc' := 124) d_Model_commit_123 rfl (hM.k rfl) (by omega) (by omega) (by first | exact e44 | exact e246 | exact e247 | exact e248 | exact e249 | rfl) ?_
                refine VW.aload_n (pc' := 125) d_Model_commit_124 rfl rfl ?_
                refine VW.gP (ci := 11) (T := T11) (N := 94) (k := 49) (k' := 49) (pc' := 128) d_Model_commit_125 rfl lk_Model_135 in11 rfl rfl rfl rfl (hM.k rfl) (hM.p (r := some 249) 49 rfl rfl) ?_
                refine VW.iload (pc' := 130) d_Model_commit_128 rfl rfl ?_
                refine VW.ild (pc' := 131) d_Model_commit_130 rfl (hM.k rfl) (by omega) (by omega) (by first | exact e44 | exact e246 | exact e247 | exact e248 | exact e249 | rfl) ?_
                refine VW.cV (ci := 11) (T := T11) (N := 94) (pc' := 134) d_Model_commit_131 rfl mv_Model_commits lk_Model_391 rfl (hM.k rfl) rfl rfl rfl (Nat.le_refl _) (Nat.le_refl _) (cT c101) rfl rfl ?_
                refine VW.iinc (pc' := 137) d_Model_commit_134 rfl rfl rfl (by omega) ?_
                refine VW.goto (pc' := 85) d_Model_commit_137 rfl ?_
                refine VW.nrm ?_
                first | exact yes c101 c112 | exact no (fun y => c101 y.1) | exact no (fun y => c112 y.2)
      have l := loop (S 100 44).toNat 0 (by omega)
      clear loop eF hs
      refine VW.istore_n (pc' := 59) d_Model_commit_58 rfl rfl ?_
      refine VW.iload_n (pc' := 60) d_Model_commit_59 rfl rfl ?_
      refine VW.if_eq (tgt := 72) (pc' := 63) d_Model_commit_60 rfl rfl (fun _ => ?_) (fun c60 => absurd c60 (by decide))
      refine VW.aload_n (pc' := 73) d_Model_commit_72 rfl rfl ?_
      refine VW.dup (pc' := 74) d_Model_commit_73 rfl rfl ?_
      refine VW.gI (ci := 11) (T := T11) (N := 94) (k := 16) (k' := 16) (pc' := 77) d_Model_commit_74 rfl lk_Model_285 in11 rfl rfl rfl rfl (hM.k rfl) (by first | assumption | (simp [up2] <;> rfl) | rfl) ?_
      refine VW.iconst (pc' := 78) d_Model_commit_77 rfl (by decide) ?_
      refine VW.iadd (pc' := 79) d_Model_commit_78 rfl (by omega) ?_
      refine VW.pI (ci := 11) (T := T11) (N := 94) (k := 16) (k' := 16) (ty := ty11) (pc' := 82) d_Model_commit_79 rfl lk_Model_285 in11 tk11 nm11 rfl rfl rfl rfl rfl rfl (hM.k rfl) ?_
      refine VW.iconst (pc' := 83) d_Model_commit_82 rfl (by decide) ?_
      refine VW.istore (pc' := 85) d_Model_commit_83 rfl rfl ?_
      refine VW.nrm ?_
      exact l
    refine VW.aload_n (pc' := 38) d_Model_commit_37 rfl rfl ?_
    refine VW.iload_n (pc' := 39) d_Model_commit_38 rfl rfl ?_
    refine VW.cV (ci := 11) (T := T11) (N := 94) (pc' := 42) d_Model_commit_39 rfl mv_Model_isOld lk_Model_385 rfl (hM.k rfl) rfl rfl rfl (Nat.le_refl _) (Nat.le_refl _) (sp_Model_isOld hM (by omega) hc.rd.1 hc.rd.2) rfl rfl ?_
    refine VW.if_ne (tgt := 53) (pc' := 45) d_Model_commit_42 rfl rfl (fun c42 => ?_) (fun c42 => ?_)
    · try have e42 := bIn c42
      refine VW.iconst (pc' := 54) d_Model_commit_53 rfl (by decide) ?_
      refine VW.goto (pc' := 58) d_Model_commit_54 rfl ?_
      refine VW.nrm ?_
      first | exact bad (Or.inl e42) | exact bad (Or.inr e50) | exact good (fun y => y.elim e42 e50)
    · try have e42 := bIe c42
      refine VW.aload_n (pc' := 46) d_Model_commit_45 rfl rfl ?_
      refine VW.iload_n (pc' := 47) d_Model_commit_46 rfl rfl ?_
      refine VW.cV (ci := 11) (T := T11) (N := 94) (pc' := 50) d_Model_commit_47 rfl mv_Model_isTooMuch lk_Model_388 rfl (hM.k rfl) rfl rfl rfl (Nat.le_refl _) (Nat.le_refl _) (sp_Model_isTooMuch hM hbS (by omega) (by omega)) rfl rfl ?_
      refine VW.if_eq (tgt := 57) (pc' := 53) d_Model_commit_50 rfl rfl (fun c50 => ?_) (fun c50 => ?_)
      · try have e50 := bIe c50
        refine VW.iconst (pc' := 58) d_Model_commit_57 rfl (by decide) ?_
        refine VW.nrm ?_
        first | exact bad (Or.inl e42) | exact bad (Or.inr e50) | exact good (fun y => y.elim e42 e50)
      · try have e50 := bIn c50
        refine VW.iconst (pc' := 54) d_Model_commit_53 rfl (by decide) ?_
        refine VW.goto (pc' := 58) d_Model_commit_54 rfl ?_
        refine VW.nrm ?_
        first | exact bad (Or.inl e42) | exact bad (Or.inr e50) | exact good (fun y => y.elim e42 e50)
  have after : ∀ a : Int, ∀ z : Int, z = cd_Model_commit I i → VW m_Model_commit false (rmv 7 174) (ex K P J (r_Model_commit n I i).1 (.inl (some (vI (r_Model_commit n I i).2)))) K P J (up2 I 100 93 z) 0 0 32 [(0, vR (some 100)), (1, vI i), (2, vI a)] [vI (bI (0 < z))] := by
    intro a z hz
    unfold r_Model_commit
    rw [← hz]
    have q : ¬ 0 < z → (z = 0 ∧ ((bI (0 ≤ i ∧ i < I 100 19) ≠ 0))) := by
      intro h0
      have hz' := hz
      unfold cd_Model_commit at hz'
      (repeat' split at hz') <;> first | (exfalso; omega) | (refine ⟨by omega, ?_⟩; first | trivial | omega)
    refine VW.if_eq (tgt := 37) (pc' := 35) d_Model_commit_32 rfl rfl (fun c32 => ?_) (fun c32 => ?_)
    · try have e32 := bIe c32
      refine VW.nrm ?_
      rw [callR_0 e32]
      have qq := q e32
      have hz2 := hz.symm.trans qq.1
      rw [qq.1]
      exact rest _ _ rfl hz2 qq.2
    · try have e32 := bIn c32
      refine VW.iconst (pc' := 36) d_Model_commit_35 rfl (by decide) ?_
      exact VW.iret d_Model_commit_36 rfl rfl (Nat.zero_le _) (Nat.zero_le _) (ex_r (callR_1 e32))
  have b0 := hb.trn
  refine VW.aload_n (pc' := 1) d_Model_commit_0 rfl rfl ?_
  refine VW.iload_n (pc' := 2) d_Model_commit_1 rfl rfl ?_
  refine VW.cV (ci := 11) (T := T11) (N := 94) (pc' := 5) d_Model_commit_2 rfl mv_Model_isTransaction lk_Model_376 rfl (hM.k rfl) rfl rfl rfl (Nat.le_refl _) (Nat.le_refl _) (sp_Model_isTransaction hM hb.trn.1) rfl rfl ?_
  refine VW.istore_n (pc' := 6) d_Model_commit_5 rfl rfl ?_
  refine VW.aload_n (pc' := 7) d_Model_commit_6 rfl rfl ?_
  refine VW.iload_n (pc' := 8) d_Model_commit_7 rfl rfl ?_
  refine VW.if_ne (tgt := 15) (pc' := 11) d_Model_commit_8 rfl rfl (fun c8 => ?_) (fun c8 => ?_)
  · try have e8 := bIn c8
    have q2 := bIn c8
    refine VW.aload_n (pc' := 16) d_Model_commit_15 rfl rfl ?_
    refine VW.gP (ci := 11) (T := T11) (N := 94) (k := 21) (k' := 21) (pc' := 19) d_Model_commit_16 rfl lk_Model_61 in11 rfl rfl rfl rfl (hM.k rfl) (hM.p (r := some 221) 21 rfl rfl) ?_
    refine VW.iload_n (pc' := 20) d_Model_commit_19 rfl rfl ?_
    refine VW.ild (pc' := 21) d_Model_commit_20 rfl (hM.k rfl) (by omega) (by omega) (by first | assumption | (simp [up2] <;> rfl) | rfl) ?_
    refine VW.if_ne (tgt := 28) (pc' := 24) d_Model_commit_21 rfl rfl (fun c21 => ?_) (fun c21 => ?_)
    · try have e21 := bIn c21
      refine VW.iconst (pc' := 29) d_Model_commit_28 rfl (by decide) ?_
      refine VW.cV (ci := 11) (T := T11) (N := 94) (pc' := 32) d_Model_commit_29 rfl mv_Model_fails lk_Model_254 rfl (hM.k rfl) rfl rfl rfl (Nat.le_refl _) (Nat.le_refl _) (sp_Model_fails hM) rfl rfl ?_
      refine VW.pick [0, 1, 2] ?_
      exact after _ _ (by unfold cd_Model_commit; (repeat' split) <;> first | rfl | (exfalso; omega))
    · try have e21 := bIe c21
      refine VW.iconst (pc' := 25) d_Model_commit_24 rfl (by decide) ?_
      refine VW.goto (pc' := 29) d_Model_commit_25 rfl ?_
      refine VW.cV (ci := 11) (T := T11) (N := 94) (pc' := 32) d_Model_commit_29 rfl mv_Model_fails lk_Model_254 rfl (hM.k rfl) rfl rfl rfl (Nat.le_refl _) (Nat.le_refl _) (sp_Model_fails hM) rfl rfl ?_
      refine VW.pick [0, 1, 2] ?_
      exact after _ _ (by unfold cd_Model_commit; (repeat' split) <;> first | rfl | (exfalso; omega))
  · try have e8 := bIe c8
    refine VW.iconst (pc' := 12) d_Model_commit_11 rfl (by decide) ?_
    refine VW.goto (pc' := 29) d_Model_commit_12 rfl ?_
    refine VW.cV (ci := 11) (T := T11) (N := 94) (pc' := 32) d_Model_commit_29 rfl mv_Model_fails lk_Model_254 rfl (hM.k rfl) rfl rfl rfl (Nat.le_refl _) (Nat.le_refl _) (sp_Model_fails hM) rfl rfl ?_
    refine VW.pick [0, 1, 2] ?_
    exact after _ _ (by unfold cd_Model_commit; (repeat' split) <;> first | rfl | (exfalso; omega))
end
