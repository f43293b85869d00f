section
variable {K : KT} {P : PT} {J I : IT}
/-- how many of the n numbers from p on are so -/
noncomputable def cU (g : Int → Prop) (p : Int) : Nat → Int
  | 0 => 0
  | n + 1 => cU g (p + 1) n + bI (g p)
theorem cU_rg (g : Int → Prop) : ∀ (n : Nat) (p : Int), 0 ≤ cU g p n ∧ cU g p n ≤ n := by
  intro n
  induction n with
  | zero => intro p; exact ⟨Int.le_refl _, Int.le_refl _⟩
  | succ n ih => intro p; have := ih (p + 1); have := bI_01 (g p); show 0 ≤ cU g (p + 1) n + bI (g p) ∧ cU g (p + 1) n + bI (g p) ≤ _; omega
theorem cU_all {g : Int → Prop} : ∀ (n : Nat) (p : Int), (∀ j, p ≤ j → j < p + n → g j) → cU g p n = n := by
  intro n
  induction n with
  | zero => intro p _; rfl
  | succ n ih =>
    intro p h
    show cU g (p + 1) n + bI (g p) = _
    rw [ih (p + 1) (fun j a b => h j (by omega) (by omega)), bI1 (h p (by omega) (by omega))]
    omega
theorem cU_yes {g : Int → Prop} {n : Nat} {p : Int} (h : g p) : cU g (p + 1) n + 1 = cU g p (n + 1) := by show _ = cU g (p + 1) n + bI (g p); rw [bI1 h]
theorem cU_no {g : Int → Prop} {n : Nat} {p : Int} (h : ¬ g p) : cU g (p + 1) n + 0 = cU g p (n + 1) := by show _ = cU g (p + 1) n + bI (g p); rw [bI0 h]
/-- the lowest free place for a transaction's state -/
noncomputable def mFree (I : IT) : Int := fs (fun j => I 226 j = 0) 0 4
noncomputable def mTakenN (I : IT) : Int := cU (fun j => I 226 j ≠ 0) 0 4
theorem mFree_rg (h : mTakenN I ≠ 4) : 0 ≤ mFree I ∧ mFree I < 4 := by
  rcases fs_spec (fun j => I 226 j = 0) 4 0 with ⟨-, h2⟩ | ⟨h1, h2, -⟩
  · exact absurd (cU_all 4 0 (fun j a b => h2 j a b)) h
  · exact ⟨h1, by have : fs (fun j => I 226 j = 0) 0 4 < 0 + 4 := h2; unfold mFree; omega⟩
/-- what is committed goes to a transaction's own state: n rows of a table -/
noncomputable def mBgR (f t : Int) : Nat → IT → IT
  | 0, S => S
  | n + 1, S => cpyI (mBgR f t n S) 215 (mrow 4 t n) 215 (mrow f t n) 4
theorem mBgR_o {f t : Int} {S : IT} (n : Nat) : ∀ (o : Nat) (k : Int), o ≠ 215 → mBgR f t n S o k = S o k := by
  induction n with
  | zero => intro o k h; rfl
  | succ n ih => intro o k h; exact (if_neg (fun z => h z.1)).trans (ih o k h)
noncomputable def mBgT (f : Int) : Nat → IT → IT
  | 0, S => S
  | n + 1, S => mBgR f n (S 214 (24 + n)).toNat (up2 (mBgT f n S) 214 (6 * f + n) (S 214 (24 + n)))
theorem mBgT_o {f : Int} {S : IT} (n : Nat) : ∀ (o : Nat) (k : Int), o ≠ 215 → o ≠ 214 → mBgT f n S o k = S o k := by
  induction n with
  | zero => intro o k h h2; rfl
  | succ n ih => intro o k h h2; exact (mBgR_o _ o k h).trans ((up2_o _ _ _ _ h2).trans (ih o k h h2))
theorem mBgT_base {f : Int} {S : IT} (hf : f < 4) (n : Nat) (h : n ≤ 6) (k : Int) (hk : 24 ≤ k) : mBgT f n S 214 k = S 214 k := by
  induction n with
  | zero => rfl
  | succ n ih => exact (mBgR_o _ 214 k (by decide)).trans ((up2_k _ _ _ _ (by omega)).trans (ih (by omega)))
/-- a transaction more -/
def mBg0 (S : IT) (f x : Int) : IT := up2 (up2 (up2 (up2 (up2 (up2 (up2 (up2 S 100 19 (S 100 19 + 1)) 220 (S 100 19) x) 221 (S 100 19) 0) 222 (S 100 19) (-1)) 223 (S 100 19) f) 224 (S 100 19) (S 100 16)) 225 (S 100 19) (-1)) 226 f 1
noncomputable def cd_Model_begin (I : IT) (x : Int) : Int := if bI (0 ≤ x ∧ x ≤ 3) = 0 then 1 else if mTakenN I = 4 ∨ I 100 19 = 60 then 2 else 0
noncomputable def f_Model_begin  (x : Int) (S : IT) : IT × Int := (mBgT (mFree S) 6 (mBg0 S (mFree S) x), S 100 19)
noncomputable def r_Model_begin  (I : IT) (x : Int) : IT × Int := callR (cd_Model_begin I x) I (f_Model_begin  x)
theorem sp_Model_begin {x : Int} (hM : MW K P) (hb : MB I) : Sp m_Model_begin false (rmv 2 49) (ex K P J (r_Model_begin  I x).1 (.inl (some (vI (r_Model_begin  I x).2)))) K P J I [vR (some 100), vI x] := by
  refine Sp.ofV (by decide) (Or.inr rfl) rfl ?_
  have rest : ∀ S : IT, (S = up2 I 100 93 0) → (cd_Model_begin I x = 0) → ((mTakenN I ≠ 4) ∧ (I 100 19 ≠ 60)) → VW m_Model_begin false (rmv 2 49) (ex K P J (f_Model_begin  x S).1 (.inl (some (vI (f_Model_begin  x S).2)))) K P J S 0 0 94 [(0, vR (some 100)), (1, vI x), (2, vI (mTakenN I)), (3, vI (mFree I))] [] := by
    intro S eS hcd q
    have u : ∀ (o : Nat) (k : Int), (o ≠ 100 ∨ k ≠ 93) → S o k = I o k := fun o k h => by rw [eS]; exact if_neg (fun z => h.elim (fun y => y z.1) (fun y => y z.2))
    have b0 := hb.trn
    have f0 := mFree_rg q.1
    have a19 : 0 ≤ S 100 19 ∧ S 100 19 < 60 := by rw [u 100 19 (by decide)]; omega
    have e1 : mFree I = mFree S := by unfold mFree; congr 1; funext j; rw [u 226 j (Or.inl (by decide))]
    have hbS := hb.u93 u
    rw [e1] at f0 ⊢
    clear e1 u eS q hcd b0
    have loopT : ∀ (n m : Nat), m + n = 6 → VW m_Model_begin false (rmv 2 49) (ex K P J (f_Model_begin x S).1 (.inl (some (vI (f_Model_begin x S).2)))) K P J (mBgT (mFree S) m (mBg0 S (mFree S) x)) 0 0 171 [(0, vR (some 100)), (1, vI x), (2, vI (mTakenN I)), (3, vI (mFree S)), (4, vI (S 100 19)), (5, vI (m : Int))] [] := by
      intro n
      induction n with
      | zero =>
        intro m hm
        have em : m = 6 := by omega
        subst em
        refine VW.iload (pc' := 173) d_Model_begin_171 rfl rfl ?_
        refine VW.bipush (pc' := 175) d_Model_begin_173 rfl (by decide) ?_
        refine VW.icmp_ge (tgt := 242) (pc' := 178) d_Model_begin_175 rfl rfl (fun c175 => ?_) (fun c175 => ?_)
        · refine VW.iload (pc' := 244) d_Model_begin_242 rfl rfl ?_
          exact VW.iret d_Model_begin_244 rfl rfl (Nat.zero_le _) (Nat.zero_le _) ex_rf
        · exfalso; omega
      | succ n ih =>
        intro m hm
        have ih1 := ih (m + 1) (by omega)
        have em : ((m + 1 : Nat) : Int) = (m : Int) + 1 := by omega
        rw [em] at ih1
        have eb : mBgT (mFree S) m (mBg0 S (mFree S) x) 214 (24 + m) = S 214 (24 + m) := mBgT_base f0.2 m (by omega) _ (by omega)
        have e0 : mBg0 S (mFree S) x 214 (24 + m) = S 214 (24 + m) := rfl
        have rw0 := hbS.row (24 + (m : Int))
        have hT : mBgR (mFree S) m (S 214 (24 + m)).toNat (up2 (mBgT (mFree S) m (mBg0 S (mFree S) x)) 214 (6 * mFree S + m) (S 214 (24 + m))) = mBgT (mFree S) (m + 1) (mBg0 S (mFree S) x) := rfl
        rw [← hT] at ih1
        clear ih hT e0
        generalize mBgT (mFree S) m (mBg0 S (mFree S) x) = T at ih1 eb ⊢
        have hU : up2 T 214 (6 * mFree S + m) (S 214 (24 + m)) 214 (24 + m) = S 214 (24 + m) := (up2_k _ _ _ _ (by omega)).trans eb
        generalize hUU : up2 T 214 (6 * mFree S + m) (S 214 (24 + m)) = U at ih1 hU
        generalize mFree S = fr at *
        have loopR : ∀ (l j : Nat), j + l = S 214 (24 + m) → VW m_Model_begin false (rmv 2 49) (ex K P J (f_Model_begin x S).1 (.inl (some (vI (f_Model_begin x S).2)))) K P J (mBgR fr m j U) 0 0 203 [(0, vR (some 100)), (1, vI x), (2, vI (mTakenN I)), (3, vI fr), (4, vI (S 100 19)), (5, vI (m : Int)), (6, vI (j : Int))] [] := by
          intro l
          induction l with
          | zero =>
            intro j hj
            have ej : (S 214 (24 + m)).toNat = j := by omega
            rw [ej] at ih1
            have eR : mBgR fr m j U 214 (24 + m) = S 214 (24 + m) := (mBgR_o j 214 _ (by decide)).trans hU
            refine VW.iload (pc' := 205) d_Model_begin_203 rfl rfl ?_
            refine VW.aload_n (pc' := 206) d_Model_begin_205 rfl rfl ?_
            refine VW.gP (ci := 11) (T := T11) (N := 94) (k := 14) (k' := 14) (pc' := 209) d_Model_begin_206 rfl lk_Model_46 in11 rfl rfl rfl rfl (hM.k rfl) (hM.p (r := some 214) 14 rfl rfl) ?_
            refine VW.bipush (pc' := 211) d_Model_begin_209 rfl (by decide) ?_
            refine VW.iload (pc' := 213) d_Model_begin_211 rfl rfl ?_
            refine VW.iadd (pc' := 214) d_Model_begin_213 rfl (by omega) ?_
            refine VW.ild (pc' := 215) d_Model_begin_214 rfl (hM.k rfl) (by omega) (by omega) (by first | exact eR | rfl) ?_
            refine VW.icmp_ge (tgt := 236) (pc' := 218) d_Model_begin_215 rfl rfl (fun c215 => ?_) (fun c215 => ?_)
            · refine VW.iinc (pc' := 239) d_Model_begin_236 rfl rfl rfl (by omega) ?_
              refine VW.goto (pc' := 171) d_Model_begin_239 rfl ?_
              refine VW.pick [0, 1, 2, 3, 4, 5] ?_
              exact ih1
            · exfalso; omega
          | succ l ihR =>
            intro j hj
            have ih2 := ihR (j + 1) (by omega)
            have ej : ((j + 1 : Nat) : Int) = (j : Int) + 1 := by omega
            rw [ej] at ih2
            have eR : mBgR fr m j U 214 (24 + m) = S 214 (24 + m) := (mBgR_o j 214 _ (by decide)).trans hU
            refine VW.iload (pc' := 205) d_Model_begin_203 rfl rfl ?_
            refine VW.aload_n (pc' := 206) d_Model_begin_205 rfl rfl ?_
            refine VW.gP (ci := 11) (T := T11) (N := 94) (k := 14) (k' := 14) (pc' := 209) d_Model_begin_206 rfl lk_Model_46 in11 rfl rfl rfl rfl (hM.k rfl) (hM.p (r := some 214) 14 rfl rfl) ?_
            refine VW.bipush (pc' := 211) d_Model_begin_209 rfl (by decide) ?_
            refine VW.iload (pc' := 213) d_Model_begin_211 rfl rfl ?_
            refine VW.iadd (pc' := 214) d_Model_begin_213 rfl (by omega) ?_
            refine VW.ild (pc' := 215) d_Model_begin_214 rfl (hM.k rfl) (by omega) (by omega) (by first | exact eR | rfl) ?_
            refine VW.icmp_ge (tgt := 236) (pc' := 218) d_Model_begin_215 rfl rfl (fun c215 => ?_) (fun c215 => ?_)
            · exfalso; omega
            · refine VW.aload_n (pc' := 219) d_Model_begin_218 rfl rfl ?_
              refine VW.iconst (pc' := 220) d_Model_begin_219 rfl (by decide) ?_
              refine VW.iload (pc' := 222) d_Model_begin_220 rfl rfl ?_
              refine VW.iload_n (pc' := 223) d_Model_begin_222 rfl rfl ?_
              refine VW.iload (pc' := 225) d_Model_begin_223 rfl rfl ?_
              refine VW.iload (pc' := 227) d_Model_begin_225 rfl rfl ?_
              refine VW.cV (ci := 11) (T := T11) (N := 94) (pc' := 230) d_Model_begin_227 rfl mv_Model_copiesRow lk_Model_277 rfl (hM.k rfl) rfl rfl rfl (Nat.le_refl _) (Nat.le_refl _) (sp_Model_copiesRow hM (by omega) (by omega) (by omega) (by omega) (by omega)) rfl rfl ?_
              refine VW.iinc (pc' := 233) d_Model_begin_230 rfl rfl rfl (by omega) ?_
              refine VW.goto (pc' := 203) d_Model_begin_233 rfl ?_
              refine VW.nrm ?_
              exact ih2
        have l2 := loopR (S 214 (24 + m)).toNat 0 (by omega)
        clear loopR ih1
        refine VW.iload (pc' := 173) d_Model_begin_171 rfl rfl ?_
        refine VW.bipush (pc' := 175) d_Model_begin_173 rfl (by decide) ?_
        refine VW.icmp_ge (tgt := 242) (pc' := 178) d_Model_begin_175 rfl rfl (fun c175 => ?_) (fun c175 => ?_)
        · exfalso; omega
        · refine VW.aload_n (pc' := 179) d_Model_begin_178 rfl rfl ?_
          refine VW.gP (ci := 11) (T := T11) (N := 94) (k := 14) (k' := 14) (pc' := 182) d_Model_begin_179 rfl lk_Model_46 in11 rfl rfl rfl rfl (hM.k rfl) (hM.p (r := some 214) 14 rfl rfl) ?_
          refine VW.bipush (pc' := 184) d_Model_begin_182 rfl (by decide) ?_
          refine VW.iload_n (pc' := 185) d_Model_begin_184 rfl rfl ?_
          refine VW.imul (pc' := 186) d_Model_begin_185 rfl (by omega) ?_
          refine VW.iload (pc' := 188) d_Model_begin_186 rfl rfl ?_
          refine VW.iadd (pc' := 189) d_Model_begin_188 rfl (by omega) ?_
          refine VW.aload_n (pc' := 190) d_Model_begin_189 rfl rfl ?_
          refine VW.gP (ci := 11) (T := T11) (N := 94) (k := 14) (k' := 14) (pc' := 193) d_Model_begin_190 rfl lk_Model_46 in11 rfl rfl rfl rfl (hM.k rfl) (hM.p (r := some 214) 14 rfl rfl) ?_
          refine VW.bipush (pc' := 195) d_Model_begin_193 rfl (by decide) ?_
          refine VW.iload (pc' := 197) d_Model_begin_195 rfl rfl ?_
          refine VW.iadd (pc' := 198) d_Model_begin_197 rfl (by omega) ?_
          refine VW.ild (pc' := 199) d_Model_begin_198 rfl (hM.k rfl) (by omega) (by omega) (by first | exact eb | rfl) ?_
          refine VW.iast (pc' := 200) d_Model_begin_199 rfl (hM.k rfl) (by omega) (by omega) ?_
          refine VW.iconst (pc' := 201) d_Model_begin_200 rfl (by decide) ?_
          refine VW.istore (pc' := 203) d_Model_begin_201 rfl rfl ?_
          refine VW.pick [0, 1, 2, 3, 4, 5, 6] ?_
          rw [hUU]
          exact l2
    have lT := loopT 6 0 (by omega)
    clear loopT hbS
    refine VW.aload_n (pc' := 95) d_Model_begin_94 rfl rfl ?_
    refine VW.gI (ci := 11) (T := T11) (N := 94) (k := 19) (k' := 19) (pc' := 98) d_Model_begin_95 rfl lk_Model_247 in11 rfl rfl rfl rfl (hM.k rfl) (by first | exact up2_eq _ _ _ _ | (simp [up2] <;> rfl) | rfl) ?_
    refine VW.istore (pc' := 100) d_Model_begin_98 rfl rfl ?_
    refine VW.aload_n (pc' := 101) d_Model_begin_100 rfl rfl ?_
    refine VW.dup (pc' := 102) d_Model_begin_101 rfl rfl ?_
    refine VW.gI (ci := 11) (T := T11) (N := 94) (k := 19) (k' := 19) (pc' := 105) d_Model_begin_102 rfl lk_Model_247 in11 rfl rfl rfl rfl (hM.k rfl) (by first | exact up2_eq _ _ _ _ | (simp [up2] <;> rfl) | rfl) ?_
    refine VW.iconst (pc' := 106) d_Model_begin_105 rfl (by decide) ?_
    refine VW.iadd (pc' := 107) d_Model_begin_106 rfl (by omega) ?_
    refine VW.pI (ci := 11) (T := T11) (N := 94) (k := 19) (k' := 19) (ty := ty11) (pc' := 110) d_Model_begin_107 rfl lk_Model_247 in11 tk11 nm11 rfl rfl rfl rfl rfl rfl (hM.k rfl) ?_
    refine VW.aload_n (pc' := 111) d_Model_begin_110 rfl rfl ?_
    refine VW.gP (ci := 11) (T := T11) (N := 94) (k := 20) (k' := 20) (pc' := 114) d_Model_begin_111 rfl lk_Model_58 in11 rfl rfl rfl rfl (hM.k rfl) (hM.p (r := some 220) 20 rfl rfl) ?_
    refine VW.iload (pc' := 116) d_Model_begin_114 rfl rfl ?_
    refine VW.iload_n (pc' := 117) d_Model_begin_116 rfl rfl ?_
    refine VW.iast (pc' := 118) d_Model_begin_117 rfl (hM.k rfl) (by omega) (by omega) ?_
    refine VW.aload_n (pc' := 119) d_Model_begin_118 rfl rfl ?_
    refine VW.gP (ci := 11) (T := T11) (N := 94) (k := 21) (k' := 21) (pc' := 122) d_Model_begin_119 rfl lk_Model_61 in11 rfl rfl rfl rfl (hM.k rfl) (hM.p (r := some 221) 21 rfl rfl) ?_
    refine VW.iload (pc' := 124) d_Model_begin_122 rfl rfl ?_
    refine VW.iconst (pc' := 125) d_Model_begin_124 rfl (by decide) ?_
    refine VW.iast (pc' := 126) d_Model_begin_125 rfl (hM.k rfl) (by omega) (by omega) ?_
    refine VW.aload_n (pc' := 127) d_Model_begin_126 rfl rfl ?_
    refine VW.gP (ci := 11) (T := T11) (N := 94) (k := 22) (k' := 22) (pc' := 130) d_Model_begin_127 rfl lk_Model_64 in11 rfl rfl rfl rfl (hM.k rfl) (hM.p (r := some 222) 22 rfl rfl) ?_
    refine VW.iload (pc' := 132) d_Model_begin_130 rfl rfl ?_
    refine VW.iconst (pc' := 133) d_Model_begin_132 rfl (by decide) ?_
    refine VW.iast (pc' := 134) d_Model_begin_133 rfl (hM.k rfl) (by omega) (by omega) ?_
    refine VW.aload_n (pc' := 135) d_Model_begin_134 rfl rfl ?_
    refine VW.gP (ci := 11) (T := T11) (N := 94) (k := 23) (k' := 23) (pc' := 138) d_Model_begin_135 rfl lk_Model_67 in11 rfl rfl rfl rfl (hM.k rfl) (hM.p (r := some 223) 23 rfl rfl) ?_
    refine VW.iload (pc' := 140) d_Model_begin_138 rfl rfl ?_
    refine VW.iload_n (pc' := 141) d_Model_begin_140 rfl rfl ?_
    refine VW.iast (pc' := 142) d_Model_begin_141 rfl (hM.k rfl) (by omega) (by omega) ?_
    refine VW.aload_n (pc' := 143) d_Model_begin_142 rfl rfl ?_
    refine VW.gP (ci := 11) (T := T11) (N := 94) (k := 24) (k' := 24) (pc' := 146) d_Model_begin_143 rfl lk_Model_70 in11 rfl rfl rfl rfl (hM.k rfl) (hM.p (r := some 224) 24 rfl rfl) ?_
    refine VW.iload (pc' := 148) d_Model_begin_146 rfl rfl ?_
    refine VW.aload_n (pc' := 149) d_Model_begin_148 rfl rfl ?_
    refine VW.gI (ci := 11) (T := T11) (N := 94) (k := 16) (k' := 16) (pc' := 152) d_Model_begin_149 rfl lk_Model_285 in11 rfl rfl rfl rfl (hM.k rfl) (by first | exact up2_eq _ _ _ _ | (simp [up2] <;> rfl) | rfl) ?_
    refine VW.iast (pc' := 153) d_Model_begin_152 rfl (hM.k rfl) (by omega) (by omega) ?_
    refine VW.aload_n (pc' := 154) d_Model_begin_153 rfl rfl ?_
    refine VW.gP (ci := 11) (T := T11) (N := 94) (k := 25) (k' := 25) (pc' := 157) d_Model_begin_154 rfl lk_Model_73 in11 rfl rfl rfl rfl (hM.k rfl) (hM.p (r := some 225) 25 rfl rfl) ?_
    refine VW.iload (pc' := 159) d_Model_begin_157 rfl rfl ?_
    refine VW.iconst (pc' := 160) d_Model_begin_159 rfl (by decide) ?_
    refine VW.iast (pc' := 161) d_Model_begin_160 rfl (hM.k rfl) (by omega) (by omega) ?_
    refine VW.aload_n (pc' := 162) d_Model_begin_161 rfl rfl ?_
    refine VW.gP (ci := 11) (T := T11) (N := 94) (k := 26) (k' := 26) (pc' := 165) d_Model_begin_162 rfl lk_Model_76 in11 rfl rfl rfl rfl (hM.k rfl) (hM.p (r := some 226) 26 rfl rfl) ?_
    refine VW.iload_n (pc' := 166) d_Model_begin_165 rfl rfl ?_
    refine VW.iconst (pc' := 167) d_Model_begin_166 rfl (by decide) ?_
    refine VW.zast (pc' := 168) d_Model_begin_167 rfl (hM.k rfl) (by omega) (by omega) (by omega) ?_
    refine VW.iconst (pc' := 169) d_Model_begin_168 rfl (by decide) ?_
    refine VW.istore (pc' := 171) d_Model_begin_169 rfl rfl ?_
    refine VW.nrm ?_
    exact lT
  have after : ∀ z : Int, z = cd_Model_begin I x → VW m_Model_begin false (rmv 2 49) (ex K P J (r_Model_begin  I x).1 (.inl (some (vI (r_Model_begin  I x).2)))) K P J (up2 I 100 93 z) 0 0 89 [(0, vR (some 100)), (1, vI x), (2, vI (mTakenN I)), (3, vI (mFree I))] [vI (bI (0 < z))] := by
    intro z hz
    unfold r_Model_begin
    rw [← hz]
    have q : ¬ 0 < z → (z = 0 ∧ ((mTakenN I ≠ 4) ∧ (I 100 19 ≠ 60))) := by
      intro h0
      have hz' := hz
      unfold cd_Model_begin at hz'
      (repeat' split at hz') <;> first | (exfalso; omega) | (refine ⟨by omega, ?_⟩; first | trivial | omega)
    refine VW.if_eq (tgt := 94) (pc' := 92) d_Model_begin_89 rfl rfl (fun c89 => ?_) (fun c89 => ?_)
    · try have e89 := bIe c89
      refine VW.nrm ?_
      rw [callR_0 e89]
      have qq := q e89
      have hz2 := hz.symm.trans qq.1
      rw [qq.1]
      exact rest _ rfl hz2 qq.2
    · try have e89 := bIn c89
      refine VW.iconst (pc' := 93) d_Model_begin_92 rfl (by decide) ?_
      exact VW.iret d_Model_begin_93 rfl rfl (Nat.zero_le _) (Nat.zero_le _) (ex_r (callR_1 e89))
  have loop : ∀ (n m : Nat) (k : Int), k + 1 = n → n + m = 4 → VW m_Model_begin false (rmv 2 49) (ex K P J (r_Model_begin  I x).1 (.inl (some (vI (r_Model_begin  I x).2)))) K P J I 0 0 7 [(0, vR (some 100)), (1, vI x), (2, vI (cU (fun j => I 226 j ≠ 0) n m)), (3, vI (fs (fun j => I 226 j = 0) n m)), (4, vI k)] [] := by
    intro n
    induction n with
    | zero =>
      intro m k hk hm
      have em : m = 4 := by omega
      subst em
      have b0 := hb.trn
      rw [show ((0 : Nat) : Int) = 0 from rfl]
      refine VW.iload (pc' := 9) d_Model_begin_7 rfl rfl ?_
      refine VW.if_lt (tgt := 53) (pc' := 12) d_Model_begin_9 rfl rfl (fun c9 => ?_) (fun c9 => ?_)
      · refine VW.aload_n (pc' := 54) d_Model_begin_53 rfl rfl ?_
        refine VW.iload_n (pc' := 55) d_Model_begin_54 rfl rfl ?_
        refine VW.iconst (pc' := 56) d_Model_begin_55 rfl (by decide) ?_
        refine VW.iconst (pc' := 57) d_Model_begin_56 rfl (by decide) ?_
        refine VW.cS (pc' := 60) d_Model_begin_57 rfl ms_Model_isIn lk_Model_235 rfl rfl rfl (Nat.le_refl _) (Nat.le_refl _) (sp_Model_isIn) rfl rfl ?_
        refine VW.if_ne (tgt := 67) (pc' := 63) d_Model_begin_60 rfl rfl (fun c60 => ?_) (fun c60 => ?_)
        · try have e60 := bIn c60
          refine VW.iload_n (pc' := 68) d_Model_begin_67 rfl rfl ?_
          refine VW.iconst (pc' := 69) d_Model_begin_68 rfl (by decide) ?_
          refine VW.icmp_eq (tgt := 81) (pc' := 72) d_Model_begin_69 rfl rfl (fun c69 => ?_) (fun c69 => ?_)
          · refine VW.iconst (pc' := 82) d_Model_begin_81 rfl (by decide) ?_
            refine VW.goto (pc' := 86) d_Model_begin_82 rfl ?_
            refine VW.cV (ci := 11) (T := T11) (N := 94) (pc' := 89) d_Model_begin_86 rfl mv_Model_fails lk_Model_254 rfl (hM.k rfl) rfl rfl rfl (Nat.le_refl _) (Nat.le_refl _) (sp_Model_fails hM) rfl rfl ?_
            refine VW.pick [0, 1, 2, 3] ?_
            exact after _ (by unfold cd_Model_begin mTakenN; (repeat' split) <;> first | rfl | (exfalso; omega))
          · refine VW.aload_n (pc' := 73) d_Model_begin_72 rfl rfl ?_
            refine VW.gI (ci := 11) (T := T11) (N := 94) (k := 19) (k' := 19) (pc' := 76) d_Model_begin_73 rfl lk_Model_247 in11 rfl rfl rfl rfl (hM.k rfl) (by first | assumption | (simp [up2] <;> rfl) | rfl) ?_
            refine VW.bipush (pc' := 78) d_Model_begin_76 rfl (by decide) ?_
            refine VW.icmp_ne (tgt := 85) (pc' := 81) d_Model_begin_78 rfl rfl (fun c78 => ?_) (fun c78 => ?_)
            · refine VW.iconst (pc' := 86) d_Model_begin_85 rfl (by decide) ?_
              refine VW.cV (ci := 11) (T := T11) (N := 94) (pc' := 89) d_Model_begin_86 rfl mv_Model_fails lk_Model_254 rfl (hM.k rfl) rfl rfl rfl (Nat.le_refl _) (Nat.le_refl _) (sp_Model_fails hM) rfl rfl ?_
              refine VW.pick [0, 1, 2, 3] ?_
              exact after _ (by unfold cd_Model_begin mTakenN; (repeat' split) <;> first | rfl | (exfalso; omega))
            · refine VW.iconst (pc' := 82) d_Model_begin_81 rfl (by decide) ?_
              refine VW.goto (pc' := 86) d_Model_begin_82 rfl ?_
              refine VW.cV (ci := 11) (T := T11) (N := 94) (pc' := 89) d_Model_begin_86 rfl mv_Model_fails lk_Model_254 rfl (hM.k rfl) rfl rfl rfl (Nat.le_refl _) (Nat.le_refl _) (sp_Model_fails hM) rfl rfl ?_
              refine VW.pick [0, 1, 2, 3] ?_
              exact after _ (by unfold cd_Model_begin mTakenN; (repeat' split) <;> first | rfl | (exfalso; omega))
        · try have e60 := bIe c60
          refine VW.iconst (pc' := 64) d_Model_begin_63 rfl (by decide) ?_
          refine VW.goto (pc' := 86) d_Model_begin_64 rfl ?_
          refine VW.cV (ci := 11) (T := T11) (N := 94) (pc' := 89) d_Model_begin_86 rfl mv_Model_fails lk_Model_254 rfl (hM.k rfl) rfl rfl rfl (Nat.le_refl _) (Nat.le_refl _) (sp_Model_fails hM) rfl rfl ?_
          refine VW.pick [0, 1, 2, 3] ?_
          exact after _ (by unfold cd_Model_begin mTakenN; (repeat' split) <;> first | rfl | (exfalso; omega))
      · exfalso; omega
    | succ n ih =>
      intro m k hk hm
      have ek : k = n := by omega
      subst ek
      have r := cU_rg (fun j => I 226 j ≠ 0) m ((n : Int) + 1)
      have ih1 := ih (m + 1) ((n : Int) + -1) (by omega) (by omega)
      have en : ((n + 1 : Nat) : Int) = (n : Int) + 1 := by omega
      rw [en]
      clear ih
      refine VW.iload (pc' := 9) d_Model_begin_7 rfl rfl ?_
      refine VW.if_lt (tgt := 53) (pc' := 12) d_Model_begin_9 rfl rfl (fun c9 => ?_) (fun c9 => ?_)
      · exfalso; omega
      · refine VW.iload_n (pc' := 13) d_Model_begin_12 rfl rfl ?_
        refine VW.aload_n (pc' := 14) d_Model_begin_13 rfl rfl ?_
        refine VW.gP (ci := 11) (T := T11) (N := 94) (k := 26) (k' := 26) (pc' := 17) d_Model_begin_14 rfl lk_Model_76 in11 rfl rfl rfl rfl (hM.k rfl) (hM.p (r := some 226) 26 rfl rfl) ?_
        refine VW.iload (pc' := 19) d_Model_begin_17 rfl rfl ?_
        refine VW.zld (pc' := 20) d_Model_begin_19 rfl (hM.k rfl) (by omega) (by omega) (rfl) ?_
        refine VW.if_eq (tgt := 27) (pc' := 23) d_Model_begin_20 rfl rfl (fun c20 => ?_) (fun c20 => ?_)
        · try have e20 := bIe c20
          refine VW.iconst (pc' := 28) d_Model_begin_27 rfl (by decide) ?_
          refine VW.iadd (pc' := 29) d_Model_begin_28 rfl (by omega) ?_
          refine VW.istore_n (pc' := 30) d_Model_begin_29 rfl rfl ?_
          refine VW.aload_n (pc' := 31) d_Model_begin_30 rfl rfl ?_
          refine VW.gP (ci := 11) (T := T11) (N := 94) (k := 26) (k' := 26) (pc' := 34) d_Model_begin_31 rfl lk_Model_76 in11 rfl rfl rfl rfl (hM.k rfl) (hM.p (r := some 226) 26 rfl rfl) ?_
          refine VW.iload (pc' := 36) d_Model_begin_34 rfl rfl ?_
          refine VW.zld (pc' := 37) d_Model_begin_36 rfl (hM.k rfl) (by omega) (by omega) (rfl) ?_
          refine VW.if_eq (tgt := 44) (pc' := 40) d_Model_begin_37 rfl rfl (fun c37 => ?_) (fun c37 => ?_)
          · try have e37 := bIe c37
            refine VW.iload (pc' := 46) d_Model_begin_44 rfl rfl ?_
            refine VW.istore_n (pc' := 47) d_Model_begin_46 rfl rfl ?_
            refine VW.iinc (pc' := 50) d_Model_begin_47 rfl rfl rfl (by omega) ?_
            refine VW.goto (pc' := 7) d_Model_begin_50 rfl ?_
            refine VW.nrm ?_
            first | (rw [cU_yes (g := fun j => I 226 j ≠ 0) c20]; rw [fs_no (g := fun j => I 226 j = 0) c37] at ih1; exact ih1) | (rw [cU_no (g := fun j => I 226 j ≠ 0) (fun z => z c20)]; rw [fs_yes (g := fun j => I 226 j = 0) c37] at ih1; exact ih1) | exact absurd c20 c37 | exact absurd c37 c20
          · try have e37 := bIn c37
            refine VW.iload_n (pc' := 41) d_Model_begin_40 rfl rfl ?_
            refine VW.goto (pc' := 46) d_Model_begin_41 rfl ?_
            refine VW.istore_n (pc' := 47) d_Model_begin_46 rfl rfl ?_
            refine VW.iinc (pc' := 50) d_Model_begin_47 rfl rfl rfl (by omega) ?_
            refine VW.goto (pc' := 7) d_Model_begin_50 rfl ?_
            refine VW.nrm ?_
            first | (rw [cU_yes (g := fun j => I 226 j ≠ 0) c20]; rw [fs_no (g := fun j => I 226 j = 0) c37] at ih1; exact ih1) | (rw [cU_no (g := fun j => I 226 j ≠ 0) (fun z => z c20)]; rw [fs_yes (g := fun j => I 226 j = 0) c37] at ih1; exact ih1) | exact absurd c20 c37 | exact absurd c37 c20
        · try have e20 := bIn c20
          refine VW.iconst (pc' := 24) d_Model_begin_23 rfl (by decide) ?_
          refine VW.goto (pc' := 28) d_Model_begin_24 rfl ?_
          refine VW.iadd (pc' := 29) d_Model_begin_28 rfl (by omega) ?_
          refine VW.istore_n (pc' := 30) d_Model_begin_29 rfl rfl ?_
          refine VW.aload_n (pc' := 31) d_Model_begin_30 rfl rfl ?_
          refine VW.gP (ci := 11) (T := T11) (N := 94) (k := 26) (k' := 26) (pc' := 34) d_Model_begin_31 rfl lk_Model_76 in11 rfl rfl rfl rfl (hM.k rfl) (hM.p (r := some 226) 26 rfl rfl) ?_
          refine VW.iload (pc' := 36) d_Model_begin_34 rfl rfl ?_
          refine VW.zld (pc' := 37) d_Model_begin_36 rfl (hM.k rfl) (by omega) (by omega) (rfl) ?_
          refine VW.if_eq (tgt := 44) (pc' := 40) d_Model_begin_37 rfl rfl (fun c37 => ?_) (fun c37 => ?_)
          · try have e37 := bIe c37
            refine VW.iload (pc' := 46) d_Model_begin_44 rfl rfl ?_
            refine VW.istore_n (pc' := 47) d_Model_begin_46 rfl rfl ?_
            refine VW.iinc (pc' := 50) d_Model_begin_47 rfl rfl rfl (by omega) ?_
            refine VW.goto (pc' := 7) d_Model_begin_50 rfl ?_
            refine VW.nrm ?_
            first | (rw [cU_yes (g := fun j => I 226 j ≠ 0) c20]; rw [fs_no (g := fun j => I 226 j = 0) c37] at ih1; exact ih1) | (rw [cU_no (g := fun j => I 226 j ≠ 0) (fun z => z c20)]; rw [fs_yes (g := fun j => I 226 j = 0) c37] at ih1; exact ih1) | exact absurd c20 c37 | exact absurd c37 c20
          · try have e37 := bIn c37
            refine VW.iload_n (pc' := 41) d_Model_begin_40 rfl rfl ?_
            refine VW.goto (pc' := 46) d_Model_begin_41 rfl ?_
            refine VW.istore_n (pc' := 47) d_Model_begin_46 rfl rfl ?_
            refine VW.iinc (pc' := 50) d_Model_begin_47 rfl rfl rfl (by omega) ?_
            refine VW.goto (pc' := 7) d_Model_begin_50 rfl ?_
            refine VW.nrm ?_
            first | (rw [cU_yes (g := fun j => I 226 j ≠ 0) c20]; rw [fs_no (g := fun j => I 226 j = 0) c37] at ih1; exact ih1) | (rw [cU_no (g := fun j => I 226 j ≠ 0) (fun z => z c20)]; rw [fs_yes (g := fun j => I 226 j = 0) c37] at ih1; exact ih1) | exact absurd c20 c37 | exact absurd c37 c20
  refine VW.iconst (pc' := 1) d_Model_begin_0 rfl (by decide) ?_
  refine VW.istore_n (pc' := 2) d_Model_begin_1 rfl rfl ?_
  refine VW.iconst (pc' := 3) d_Model_begin_2 rfl (by decide) ?_
  refine VW.istore_n (pc' := 4) d_Model_begin_3 rfl rfl ?_
  refine VW.iconst (pc' := 5) d_Model_begin_4 rfl (by decide) ?_
  refine VW.istore (pc' := 7) d_Model_begin_5 rfl rfl ?_
  refine VW.nrm ?_
  exact loop 4 0 3 (by omega) (by omega)
end
