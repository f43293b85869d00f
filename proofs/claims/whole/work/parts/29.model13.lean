section
variable {K : KT} {P : PT} {J I : IT}
theorem mfind_of {S : IT} {s t key : Int} (h1 : ∀ k, S 215 k = I 215 k) (h2 : ∀ k, S 214 k = I 214 k) : mfind S s t key = mfind I s t key := by
  unfold mfind
  rw [h2]
  congr 1
  funext r
  rw [h1]
theorem mGoneIn_of {S : IT} {s : Int} {n : Nat} (h1 : ∀ k, S 239 k = I 239 k) (h2 : ∀ k, S 214 k = I 214 k) (h : mGoneIn I s n) : mGoneIn S s n := fun j hj hz => by
  rw [h2]; exact h j hj (by rw [← h1]; exact hz)
/-- the own rows change -/
noncomputable def mDoesS (S : IT) (i s t : Int) : IT :=
  if S 227 i = 0 then cpyI (up2 S 214 (6 * s + t) (S 214 (6 * s + t) + 1)) 232 (4 * i) 215 (mrow s t (S 214 (6 * s + t))) 4
  else if S 227 i = 1 then up2 S 215 (mrow s t (mfind S s t (S 229 i)) + S 230 i) (S 231 i)
  else mDeletes S s
theorem mDoesS_i {S : IT} {i s t : Int} (h : S 227 i = 0) : mDoesS S i s t = cpyI (up2 S 214 (6 * s + t) (S 214 (6 * s + t) + 1)) 232 (4 * i) 215 (mrow s t (S 214 (6 * s + t))) 4 := if_pos h
theorem mDoesS_u {S : IT} {i s t : Int} (h : S 227 i ≠ 0) (h2 : S 227 i = 1) : mDoesS S i s t = up2 S 215 (mrow s t (mfind S s t (S 229 i)) + S 230 i) (S 231 i) := (if_neg h).trans (if_pos h2)
theorem mDoesS_d {S : IT} {i s t : Int} (h : S 227 i ≠ 0) (h2 : S 227 i ≠ 1) : mDoesS S i s t = mDeletes S s := (if_neg h).trans (if_neg h2)
noncomputable def mDoes (I : IT) (i : Int) : IT := mDoesS (mLog I i (I 100 41).toNat) i (I 223 i) (I 228 i)
theorem sp_Model_does {i : Int} (hM : MW K P) (hb : MB I) (hi : 0 ≤ i ∧ i < 60) (ht : 0 ≤ I 228 i ∧ I 228 i < 6) (h41 : 0 ≤ I 100 41 ∧ I 100 41 ≤ 384) (h44 : 0 ≤ I 100 44 ∧ I 100 44 + I 100 41 ≤ 16384) (hin : I 227 i = 0 → I 214 (6 * I 223 i + I 228 i) < 8) (hup : I 227 i = 1 → mfind I (I 223 i) (I 228 i) (I 229 i) ≠ -1 ∧ 0 ≤ I 230 i ∧ I 230 i < 4) (hde : I 227 i ≠ 0 → I 227 i ≠ 1 → mGoneIn I (I 223 i) 384) : Sp m_Model_does false (rmv 4 97) (ex K P J (mDoes I i) (.inl none)) K P J I [vR (some 100), vI i] := by
  refine Sp.ofV (by decide) (Or.inr rfl) rfl ?_
  have p0 := hb.pla i
  have fin : ∀ (S : IT) (s t w : Int), MB S → (0 ≤ s ∧ s < 4) → (0 ≤ t ∧ t < 6) → (S 227 i = 0 → S 214 (6 * s + t) < 8) → (S 227 i = 1 → mfind S s t (S 229 i) ≠ -1 ∧ 0 ≤ S 230 i ∧ S 230 i < 4) → (S 227 i ≠ 0 → S 227 i ≠ 1 → mGoneIn S s 384) → VW m_Model_does false (rmv 4 97) (ex K P J (mDoesS S i s t) (.inl none)) K P J S 0 0 52 [(0, vR (some 100)), (1, vI i), (2, vI t), (3, vI s), (4, vI w)] [] := by
    intro S s t w hS hs ht2 q1 q2 q3
    clear hin hup hde hb ht p0
    have r0 := hS.row (6 * s + t)
    have m0 := mfind_rg S s t (S 229 i)
    have loop : ∀ (n : Nat) (c : Int), c + n = 4 → 0 ≤ c → S 227 i = 0 → S 214 (6 * s + t) < 8 → VW m_Model_does false (rmv 4 97) (ex K P J (mDoesS S i s t) (.inl none)) K P J (cpyI (up2 S 214 (6 * s + t) (S 214 (6 * s + t) + 1)) 232 (4 * i) 215 (mrow s t (S 214 (6 * s + t))) c) 0 0 92 [(0, vR (some 100)), (1, vI i), (2, vI t), (3, vI s), (4, vI (S 214 (6 * s + t))), (5, vI c)] [] := by
      intro n
      induction n with
      | zero =>
        intro c hc hq z z2
        refine VW.iload (pc' := 94) d_Model_does_92 rfl rfl ?_
        refine VW.iconst (pc' := 95) d_Model_does_94 rfl (by decide) ?_
        refine VW.icmp_ge (tgt := 129) (pc' := 98) d_Model_does_95 rfl rfl (fun c95 => ?_) (fun c95 => ?_)
        · refine VW.goto (pc' := 184) d_Model_does_129 rfl ?_
          exact VW.vret d_Model_does_184 rfl (Nat.zero_le _) (Nat.zero_le _) (by rw [mDoesS_i z, show c = 4 by omega]; exact ex_rf)
        · exfalso; omega
      | succ n ih =>
        intro c hc hq z z2
        refine VW.iload (pc' := 94) d_Model_does_92 rfl rfl ?_
        refine VW.iconst (pc' := 95) d_Model_does_94 rfl (by decide) ?_
        refine VW.icmp_ge (tgt := 129) (pc' := 98) d_Model_does_95 rfl rfl (fun c95 => ?_) (fun c95 => ?_)
        · exfalso; omega
        · refine VW.aload_n (pc' := 99) d_Model_does_98 rfl rfl ?_
          refine VW.gP (ci := 11) (T := T11) (N := 94) (k := 15) (k' := 15) (pc' := 102) d_Model_does_99 rfl lk_Model_49 in11 rfl rfl rfl rfl (hM.k rfl) (hM.p (r := some 215) 15 rfl rfl) ?_
          refine VW.iload_n (pc' := 103) d_Model_does_102 rfl rfl ?_
          refine VW.iload_n (pc' := 104) d_Model_does_103 rfl rfl ?_
          refine VW.iload (pc' := 106) d_Model_does_104 rfl rfl ?_
          refine VW.iload (pc' := 108) d_Model_does_106 rfl rfl ?_
          refine VW.cS (pc' := 111) d_Model_does_108 rfl ms_Model_cell lk_Model_273 rfl rfl rfl (Nat.le_refl _) (Nat.le_refl _) (sp_Model_cell (by omega) (by omega) (by omega) (by omega)) rfl rfl ?_
          refine VW.aload_n (pc' := 112) d_Model_does_111 rfl rfl ?_
          refine VW.gP (ci := 11) (T := T11) (N := 94) (k := 32) (k' := 32) (pc' := 115) d_Model_does_112 rfl lk_Model_95 in11 rfl rfl rfl rfl (hM.k rfl) (hM.p (r := some 232) 32 rfl rfl) ?_
          refine VW.iconst (pc' := 116) d_Model_does_115 rfl (by decide) ?_
          refine VW.iload_n (pc' := 117) d_Model_does_116 rfl rfl ?_
          refine VW.imul (pc' := 118) d_Model_does_117 rfl (by omega) ?_
          refine VW.iload (pc' := 120) d_Model_does_118 rfl rfl ?_
          refine VW.iadd (pc' := 121) d_Model_does_120 rfl (by omega) ?_
          refine VW.ild (pc' := 122) d_Model_does_121 rfl (hM.k rfl) (by omega) (by omega) (by first | assumption | (simp [up2] <;> rfl) | rfl) ?_
          refine VW.iast (pc' := 123) d_Model_does_122 rfl (hM.k rfl) (by omega) (by omega) ?_
          refine VW.nrm ?_
          rw [cpyI_step2 (by decide) hq]
          refine VW.iinc (pc' := 126) d_Model_does_123 rfl rfl rfl (by omega) ?_
          refine VW.goto (pc' := 92) d_Model_does_126 rfl ?_
          refine VW.nrm ?_
          exact ih (c + 1) (by omega) (by omega) z z2
    refine VW.aload_n (pc' := 53) d_Model_does_52 rfl rfl ?_
    refine VW.gP (ci := 11) (T := T11) (N := 94) (k := 27) (k' := 27) (pc' := 56) d_Model_does_53 rfl lk_Model_80 in11 rfl rfl rfl rfl (hM.k rfl) (hM.p (r := some 227) 27 rfl rfl) ?_
    refine VW.iload_n (pc' := 57) d_Model_does_56 rfl rfl ?_
    refine VW.ild (pc' := 58) d_Model_does_57 rfl (hM.k rfl) (by omega) (by omega) (by first | assumption | (simp [up2] <;> rfl) | rfl) ?_
    refine VW.if_ne (tgt := 132) (pc' := 61) d_Model_does_58 rfl rfl (fun c58 => ?_) (fun c58 => ?_)
    · try have e58 := bIn c58
      refine VW.aload_n (pc' := 133) d_Model_does_132 rfl rfl ?_
      refine VW.gP (ci := 11) (T := T11) (N := 94) (k := 27) (k' := 27) (pc' := 136) d_Model_does_133 rfl lk_Model_80 in11 rfl rfl rfl rfl (hM.k rfl) (hM.p (r := some 227) 27 rfl rfl) ?_
      refine VW.iload_n (pc' := 137) d_Model_does_136 rfl rfl ?_
      refine VW.ild (pc' := 138) d_Model_does_137 rfl (hM.k rfl) (by omega) (by omega) (by first | assumption | (simp [up2] <;> rfl) | rfl) ?_
      refine VW.iconst (pc' := 139) d_Model_does_138 rfl (by decide) ?_
      refine VW.icmp_ne (tgt := 179) (pc' := 142) d_Model_does_139 rfl rfl (fun c139 => ?_) (fun c139 => ?_)
      · refine VW.aload_n (pc' := 180) d_Model_does_179 rfl rfl ?_
        refine VW.iload_n (pc' := 181) d_Model_does_180 rfl rfl ?_
        refine VW.cV (ci := 11) (T := T11) (N := 94) (pc' := 184) d_Model_does_181 rfl mv_Model_deletes lk_Model_340 rfl (hM.k rfl) rfl rfl rfl (Nat.le_refl _) (Nat.le_refl _) (sp_Model_deletes hM hS (by omega) (q3 c58 c139)) rfl rfl ?_
        exact VW.vret d_Model_does_184 rfl (Nat.zero_le _) (Nat.zero_le _) (by first | (have h := mDoesS_u (s := s) (t := t) c58 c139; exact ex_i h) | (have h := mDoesS_d (s := s) (t := t) c58 c139; exact ex_i h))
      · have q5 := q2 c139
        refine VW.aload_n (pc' := 143) d_Model_does_142 rfl rfl ?_
        refine VW.gP (ci := 11) (T := T11) (N := 94) (k := 15) (k' := 15) (pc' := 146) d_Model_does_143 rfl lk_Model_49 in11 rfl rfl rfl rfl (hM.k rfl) (hM.p (r := some 215) 15 rfl rfl) ?_
        refine VW.iload_n (pc' := 147) d_Model_does_146 rfl rfl ?_
        refine VW.iload_n (pc' := 148) d_Model_does_147 rfl rfl ?_
        refine VW.aload_n (pc' := 149) d_Model_does_148 rfl rfl ?_
        refine VW.iload_n (pc' := 150) d_Model_does_149 rfl rfl ?_
        refine VW.iload_n (pc' := 151) d_Model_does_150 rfl rfl ?_
        refine VW.aload_n (pc' := 152) d_Model_does_151 rfl rfl ?_
        refine VW.gP (ci := 11) (T := T11) (N := 94) (k := 29) (k' := 29) (pc' := 155) d_Model_does_152 rfl lk_Model_86 in11 rfl rfl rfl rfl (hM.k rfl) (hM.p (r := some 229) 29 rfl rfl) ?_
        refine VW.iload_n (pc' := 156) d_Model_does_155 rfl rfl ?_
        refine VW.ild (pc' := 157) d_Model_does_156 rfl (hM.k rfl) (by omega) (by omega) (by first | assumption | (simp [up2] <;> rfl) | rfl) ?_
        refine VW.cV (ci := 11) (T := T11) (N := 94) (pc' := 160) d_Model_does_157 rfl mv_Model_find lk_Model_305 rfl (hM.k rfl) rfl rfl rfl (Nat.le_refl _) (Nat.le_refl _) (sp_Model_find hM (by omega) (by omega) (by omega)) rfl rfl ?_
        refine VW.aload_n (pc' := 161) d_Model_does_160 rfl rfl ?_
        refine VW.gP (ci := 11) (T := T11) (N := 94) (k := 30) (k' := 30) (pc' := 164) d_Model_does_161 rfl lk_Model_89 in11 rfl rfl rfl rfl (hM.k rfl) (hM.p (r := some 230) 30 rfl rfl) ?_
        refine VW.iload_n (pc' := 165) d_Model_does_164 rfl rfl ?_
        refine VW.ild (pc' := 166) d_Model_does_165 rfl (hM.k rfl) (by omega) (by omega) (by first | assumption | (simp [up2] <;> rfl) | rfl) ?_
        refine VW.cS (pc' := 169) d_Model_does_166 rfl ms_Model_cell lk_Model_273 rfl rfl rfl (Nat.le_refl _) (Nat.le_refl _) (sp_Model_cell (by omega) (by omega) (by omega) (by omega)) rfl rfl ?_
        refine VW.aload_n (pc' := 170) d_Model_does_169 rfl rfl ?_
        refine VW.gP (ci := 11) (T := T11) (N := 94) (k := 31) (k' := 31) (pc' := 173) d_Model_does_170 rfl lk_Model_92 in11 rfl rfl rfl rfl (hM.k rfl) (hM.p (r := some 231) 31 rfl rfl) ?_
        refine VW.iload_n (pc' := 174) d_Model_does_173 rfl rfl ?_
        refine VW.ild (pc' := 175) d_Model_does_174 rfl (hM.k rfl) (by omega) (by omega) (by first | assumption | (simp [up2] <;> rfl) | rfl) ?_
        refine VW.iast (pc' := 176) d_Model_does_175 rfl (hM.k rfl) (by omega) (by omega) ?_
        refine VW.goto (pc' := 184) d_Model_does_176 rfl ?_
        exact VW.vret d_Model_does_184 rfl (Nat.zero_le _) (Nat.zero_le _) (by first | (have h := mDoesS_u (s := s) (t := t) c58 c139; exact ex_i h) | (have h := mDoesS_d (s := s) (t := t) c58 c139; exact ex_i h))
    · try have e58 := bIe c58
      have q4 := q1 c58
      refine VW.aload_n (pc' := 62) d_Model_does_61 rfl rfl ?_
      refine VW.gP (ci := 11) (T := T11) (N := 94) (k := 14) (k' := 14) (pc' := 65) d_Model_does_62 rfl lk_Model_46 in11 rfl rfl rfl rfl (hM.k rfl) (hM.p (r := some 214) 14 rfl rfl) ?_
      refine VW.bipush (pc' := 67) d_Model_does_65 rfl (by decide) ?_
      refine VW.iload_n (pc' := 68) d_Model_does_67 rfl rfl ?_
      refine VW.imul (pc' := 69) d_Model_does_68 rfl (by omega) ?_
      refine VW.iload_n (pc' := 70) d_Model_does_69 rfl rfl ?_
      refine VW.iadd (pc' := 71) d_Model_does_70 rfl (by omega) ?_
      refine VW.ild (pc' := 72) d_Model_does_71 rfl (hM.k rfl) (by omega) (by omega) (by first | assumption | (simp [up2] <;> rfl) | rfl) ?_
      refine VW.istore (pc' := 74) d_Model_does_72 rfl rfl ?_
      refine VW.aload_n (pc' := 75) d_Model_does_74 rfl rfl ?_
      refine VW.gP (ci := 11) (T := T11) (N := 94) (k := 14) (k' := 14) (pc' := 78) d_Model_does_75 rfl lk_Model_46 in11 rfl rfl rfl rfl (hM.k rfl) (hM.p (r := some 214) 14 rfl rfl) ?_
      refine VW.bipush (pc' := 80) d_Model_does_78 rfl (by decide) ?_
      refine VW.iload_n (pc' := 81) d_Model_does_80 rfl rfl ?_
      refine VW.imul (pc' := 82) d_Model_does_81 rfl (by omega) ?_
      refine VW.iload_n (pc' := 83) d_Model_does_82 rfl rfl ?_
      refine VW.iadd (pc' := 84) d_Model_does_83 rfl (by omega) ?_
      refine VW.dup2 (pc' := 85) d_Model_does_84 rfl rfl rfl ?_
      refine VW.ild (pc' := 86) d_Model_does_85 rfl (hM.k rfl) (by omega) (by omega) (by first | assumption | (simp [up2] <;> rfl) | rfl) ?_
      refine VW.iconst (pc' := 87) d_Model_does_86 rfl (by decide) ?_
      refine VW.iadd (pc' := 88) d_Model_does_87 rfl (by omega) ?_
      refine VW.iast (pc' := 89) d_Model_does_88 rfl (hM.k rfl) (by omega) (by omega) ?_
      refine VW.iconst (pc' := 90) d_Model_does_89 rfl (by decide) ?_
      refine VW.istore (pc' := 92) d_Model_does_90 rfl rfl ?_
      refine VW.nrm ?_
      have h := loop 4 0 (by omega) (by omega) c58 q4
      rw [cpyI_0] at h
      exact h
  have loop : ∀ (n m : Nat), m + n = I 100 41 → VW m_Model_does false (rmv 4 97) (ex K P J (mDoes I i) (.inl none)) K P J (mLog I i m) 0 0 17 [(0, vR (some 100)), (1, vI i), (2, vI (I 228 i)), (3, vI (I 223 i)), (4, vI (m : Int))] [] := by
    intro n
    induction n with
    | zero =>
      intro m hm
      have em : (I 100 41).toNat = m := by omega
      have e41 := mLog_fr (I := I) (i := i) m 100 41 (by decide) (Or.inr (by decide))
      have pre : ∀ S, S = mLog I i m → S 100 41 = I 100 41 → VW m_Model_does false (rmv 4 97) (ex K P J (mDoes I i) (.inl none)) K P J S 0 0 52 [(0, vR (some 100)), (1, vI i), (2, vI (I 228 i)), (3, vI (I 223 i)), (4, vI (m : Int))] [] := by
        intro S eS e41'
        have fr : ∀ (o : Nat) (k : Int), (o < 246 ∨ 249 < o) → (o ≠ 100 ∨ k ≠ 44) → S o k = I o k := fun o k h1 h2 => by rw [eS]; exact mLog_fr m o k h1 h2
        have hS : MB S := hb.of (fr 100 0 (by decide) (by decide)) (fr 100 8 (by decide) (by decide)) (fr 100 19 (by decide) (by decide)) (fun k => fr 201 k (by decide) (Or.inl (by decide))) (fun k => fr 202 k (by decide) (Or.inl (by decide))) (fun k => fr 206 k (by decide) (Or.inl (by decide))) (fun k => fr 211 k (by decide) (Or.inl (by decide))) (fun k => by rw [fr 214 k (by decide) (Or.inl (by decide))]; exact hb.row k) (fun k => fr 223 k (by decide) (Or.inl (by decide))) (fun k => by rw [fr 236 k (by decide) (Or.inl (by decide))]; exact hb.who k)
        unfold mDoes
        rw [em, ← eS]
        have f227 := fr 227 i (by decide) (Or.inl (by decide))
        have f229 := fr 229 i (by decide) (Or.inl (by decide))
        have f230 := fr 230 i (by decide) (Or.inl (by decide))
        have f214 := fun k => fr 214 k (by decide) (Or.inl (by decide))
        have f215 := fun k => fr 215 k (by decide) (Or.inl (by decide))
        refine fin S (I 223 i) (I 228 i) m hS p0 ht (fun z => ?_) (fun z => ?_) (fun z z2 => ?_)
        · rw [f214]; exact hin (by omega)
        · rw [mfind_of f215 f214, f229, f230]; exact hup (by omega)
        · exact mGoneIn_of (fun k => fr 239 k (by decide) (Or.inl (by decide))) f214 (hde (by omega) (by omega))
      clear fin
      refine VW.iload (pc' := 19) d_Model_does_17 rfl rfl ?_
      refine VW.aload_n (pc' := 20) d_Model_does_19 rfl rfl ?_
      refine VW.gI (ci := 11) (T := T11) (N := 94) (k := 41) (k' := 41) (pc' := 23) d_Model_does_20 rfl lk_Model_312 in11 rfl rfl rfl rfl (hM.k rfl) (by first | exact e41 | rfl) ?_
      refine VW.icmp_ge (tgt := 52) (pc' := 26) d_Model_does_23 rfl rfl (fun c23 => ?_) (fun c23 => ?_)
      · refine VW.nrm ?_
        exact pre _ rfl e41
      · exfalso; omega
    | succ n ih =>
      intro m hm
      have e41 := mLog_fr (I := I) (i := i) m 100 41 (by decide) (Or.inr (by decide))
      have e44 := mLog_44 I i m
      have em : (m : Int) + 1 = ((m + 1 : Nat) : Int) := by omega
      have ih1 := ih (m + 1) (by omega)
      rw [← em] at ih1
      clear fin ih
      refine VW.iload (pc' := 19) d_Model_does_17 rfl rfl ?_
      refine VW.aload_n (pc' := 20) d_Model_does_19 rfl rfl ?_
      refine VW.gI (ci := 11) (T := T11) (N := 94) (k := 41) (k' := 41) (pc' := 23) d_Model_does_20 rfl lk_Model_312 in11 rfl rfl rfl rfl (hM.k rfl) (by first | exact e41 | rfl) ?_
      refine VW.icmp_ge (tgt := 52) (pc' := 26) d_Model_does_23 rfl rfl (fun c23 => ?_) (fun c23 => ?_)
      · exfalso; omega
      · refine VW.aload_n (pc' := 27) d_Model_does_26 rfl rfl ?_
        refine VW.iconst (pc' := 28) d_Model_does_27 rfl (by decide) ?_
        refine VW.iload_n (pc' := 29) d_Model_does_28 rfl rfl ?_
        refine VW.aload_n (pc' := 30) d_Model_does_29 rfl rfl ?_
        refine VW.gP (ci := 11) (T := T11) (N := 94) (k := 42) (k' := 42) (pc' := 33) d_Model_does_30 rfl lk_Model_120 in11 rfl rfl rfl rfl (hM.k rfl) (hM.p (r := some 242) 42 rfl rfl) ?_
        refine VW.iload (pc' := 35) d_Model_does_33 rfl rfl ?_
        refine VW.ild (pc' := 36) d_Model_does_35 rfl (hM.k rfl) (by omega) (by omega) (by first | exact e41 | rfl) ?_
        refine VW.aload_n (pc' := 37) d_Model_does_36 rfl rfl ?_
        refine VW.gP (ci := 11) (T := T11) (N := 94) (k := 43) (k' := 43) (pc' := 40) d_Model_does_37 rfl lk_Model_123 in11 rfl rfl rfl rfl (hM.k rfl) (hM.p (r := some 243) 43 rfl rfl) ?_
        refine VW.iload (pc' := 42) d_Model_does_40 rfl rfl ?_
        refine VW.ild (pc' := 43) d_Model_does_42 rfl (hM.k rfl) (by omega) (by omega) (by first | exact e41 | rfl) ?_
        refine VW.cV (ci := 11) (T := T11) (N := 94) (pc' := 46) d_Model_does_43 rfl mv_Model_notes lk_Model_297 rfl (hM.k rfl) rfl rfl rfl (Nat.le_refl _) (Nat.le_refl _) (sp_Model_notes hM (by omega) (by omega)) rfl rfl ?_
        refine VW.iinc (pc' := 49) d_Model_does_46 rfl rfl rfl (by omega) ?_
        refine VW.goto (pc' := 17) d_Model_does_49 rfl ?_
        refine VW.nrm ?_
        exact ih1
  refine VW.aload_n (pc' := 1) d_Model_does_0 rfl rfl ?_
  refine VW.gP (ci := 11) (T := T11) (N := 94) (k := 28) (k' := 28) (pc' := 4) d_Model_does_1 rfl lk_Model_83 in11 rfl rfl rfl rfl (hM.k rfl) (hM.p (r := some 228) 28 rfl rfl) ?_
  refine VW.iload_n (pc' := 5) d_Model_does_4 rfl rfl ?_
  refine VW.ild (pc' := 6) d_Model_does_5 rfl (hM.k rfl) (by omega) (by omega) (by first | assumption | (simp [up2] <;> rfl) | rfl) ?_
  refine VW.istore_n (pc' := 7) d_Model_does_6 rfl rfl ?_
  refine VW.aload_n (pc' := 8) d_Model_does_7 rfl rfl ?_
  refine VW.gP (ci := 11) (T := T11) (N := 94) (k := 23) (k' := 23) (pc' := 11) d_Model_does_8 rfl lk_Model_67 in11 rfl rfl rfl rfl (hM.k rfl) (hM.p (r := some 223) 23 rfl rfl) ?_
  refine VW.iload_n (pc' := 12) d_Model_does_11 rfl rfl ?_
  refine VW.ild (pc' := 13) d_Model_does_12 rfl (hM.k rfl) (by omega) (by omega) (by first | assumption | (simp [up2] <;> rfl) | rfl) ?_
  refine VW.istore_n (pc' := 14) d_Model_does_13 rfl rfl ?_
  refine VW.iconst (pc' := 15) d_Model_does_14 rfl (by decide) ?_
  refine VW.istore (pc' := 17) d_Model_does_15 rfl rfl ?_
  refine VW.nrm ?_
  exact loop (I 100 41).toNat 0 (by omega)
end
