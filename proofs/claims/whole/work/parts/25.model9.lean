section
variable {K : KT} {P : PT} {J I : IT}
theorem b1I {p : Prop} (h : p) : 1 = bI p := (bI1 h).symm
theorem b0I {p : Prop} (h : ¬ p) : 0 = bI p := (bI0 h).symm
theorem MB.fr {S : IT} (h : MB I) (f : ∀ o k, o ≠ 233 → o ≠ 234 → o ≠ 235 → S o k = I o k) : MB S :=
  h.of (f 100 0 (by decide) (by decide) (by decide)) (f 100 8 (by decide) (by decide) (by decide)) (f 100 19 (by decide) (by decide) (by decide)) (fun k => f 201 k (by decide) (by decide) (by decide)) (fun k => f 202 k (by decide) (by decide) (by decide)) (fun k => f 206 k (by decide) (by decide) (by decide)) (fun k => f 211 k (by decide) (by decide) (by decide)) (fun k => by rw [f 214 k (by decide) (by decide) (by decide)]; exact h.row k) (fun k => f 223 k (by decide) (by decide) (by decide)) (fun k => by rw [f 236 k (by decide) (by decide) (by decide)]; exact h.who k)
theorem mReadsKey_fr {i t key : Int} (o : Nat) (k : Int) (h1 : o ≠ 233) (h2 : o ≠ 234) (h3 : o ≠ 235) : mReadsKey I i t key o k = I o k := by
  by_cases h : mRead I i t key
  · rw [mReadsKey_1 h]
  · rw [mReadsKey_0 h]; simp [up2, h1, h2, h3]
theorem mReadsKey_n {i t key : Int} : I 233 i ≤ mReadsKey I i t key 233 i ∧ mReadsKey I i t key 233 i ≤ I 233 i + 1 := by
  by_cases h : mRead I i t key
  · rw [mReadsKey_1 h]; omega
  · rw [mReadsKey_0 h]; simp [up2]; omega
theorem mReadsRef_fr {i t c v : Int} (o : Nat) (k : Int) (h1 : o ≠ 233) (h2 : o ≠ 234) (h3 : o ≠ 235) : mReadsRef I i t c v o k = I o k := by
  by_cases h : I 206 (4 * t + c) = -1 ∨ v = -2147483648
  · rw [mReadsRef_1 h]
  · rw [mReadsRef_0 h]; exact mReadsKey_fr o k h1 h2 h3
theorem mReadsRef_n {i t c v : Int} : I 233 i ≤ mReadsRef I i t c v 233 i ∧ mReadsRef I i t c v 233 i ≤ I 233 i + 1 := by
  by_cases h : I 206 (4 * t + c) = -1 ∨ v = -2147483648
  · rw [mReadsRef_1 h]; omega
  · rw [mReadsRef_0 h]; exact mReadsKey_n
theorem andI_and {g : Int → Prop} {lo k is w : Int} (h : (w = 0 ∧ is = 0) ∨ (w = 1 ∧ andI g lo k is)) : is = bI (w = 1 ∧ ∀ j, lo ≤ j → j < k → g j) := by
  rcases h with ⟨h1, h2⟩ | ⟨h1, h2⟩
  · rw [bI0 (fun z => by omega)]; exact h2
  · rw [h2.bI]
    exact bIc ⟨fun z => ⟨h1, z⟩, fun z => z.2⟩
/-- what an insert reads: its key and what its first n columns refer to -/
noncomputable def mInsS (I : IT) (i t : Int) : Nat → IT
  | 0 => if I 232 (4 * i) = -2147483648 then I else mReadsKey I i t (I 232 (4 * i))
  | n + 1 => mReadsRef (mInsS I i t n) i t (n + 1) (mInsS I i t n 232 (4 * i + (n + 1)))
theorem mInsS_1 {i t : Int} (h : I 232 (4 * i) = -2147483648) : mInsS I i t 0 = I := if_pos h
theorem mInsS_0 {i t : Int} (h : I 232 (4 * i) ≠ -2147483648) : mInsS I i t 0 = mReadsKey I i t (I 232 (4 * i)) := if_neg h
theorem mInsS_fr {i t : Int} (n : Nat) : ∀ (o : Nat) (k : Int), o ≠ 233 → o ≠ 234 → o ≠ 235 → mInsS I i t n o k = I o k := by
  induction n with
  | zero =>
    intro o k h1 h2 h3
    by_cases h : I 232 (4 * i) = -2147483648
    · rw [mInsS_1 h]
    · rw [mInsS_0 h]; exact mReadsKey_fr o k h1 h2 h3
  | succ n ih => intro o k h1 h2 h3; exact (mReadsRef_fr o k h1 h2 h3).trans (ih o k h1 h2 h3)
theorem mInsS_n {i t : Int} (n : Nat) : I 233 i ≤ mInsS I i t n 233 i ∧ mInsS I i t n 233 i ≤ I 233 i + 1 + n := by
  induction n with
  | zero =>
    by_cases h : I 232 (4 * i) = -2147483648
    · rw [mInsS_1 h]; omega
    · rw [mInsS_0 h]; have := @mReadsKey_n I i t (I 232 (4 * i)); omega
  | succ n ih => have := @mReadsRef_n (mInsS I i t n) i t (n + 1) (mInsS I i t n 232 (4 * i + (n + 1))); show I 233 i ≤ mReadsRef _ _ _ _ _ 233 i ∧ mReadsRef _ _ _ _ _ 233 i ≤ _; omega
/-- a row may be inserted, so far as the table and its key go -/
def mInsA (S : IT) (i t key : Int) : Prop := key ≠ -2147483648 ∧ mfind S (S 223 i) t key = -1 ∧ S 214 (6 * S 223 i + t) < 8
def mInsC (S : IT) (i t : Int) (c : Int) : Prop := mCheckOk S t c (S 232 (4 * i + c)) ∧ mRefOk S (S 223 i) t c (S 232 (4 * i + c))
def mInsOk (S : IT) (i t key : Int) : Prop := mInsA S i t key ∧ ∀ c, 0 ≤ c → c < S 201 t → mInsC S i t c
theorem sp_Model_wantsInsert {i : Int} (hM : MW K P) (hb : MB I) (hi : 0 ≤ i ∧ i < 60) (ht : 0 ≤ I 228 i ∧ I 228 i < 6) (hn : 0 ≤ I 233 i ∧ I 233 i ≤ 2040) (hw : 0 ≤ I 100 41 ∧ I 100 41 < 384) : Sp m_Model_wantsInsert false (rmv 3 75) (ex K P J (mwants (mInsS I i (I 228 i) (I 201 (I 228 i) - 1).toNat) (I 228 i) (I 232 (4 * i))) (.inl (some (vI (bI (mInsOk (mInsS I i (I 228 i) (I 201 (I 228 i) - 1).toNat) i (I 228 i) (I 232 (4 * i)))))))) K P J I [vR (some 100), vI i] := by
  refine Sp.ofV (by decide) (Or.inr rfl) rfl ?_
  have k0 := hb.col (I 228 i)
  have loop2 : ∀ (S : IT) (hS : MB S) (hS41 : 0 ≤ S 100 41 ∧ S 100 41 < 384) (n : Nat) (c is w : Int), S = (mInsS I i (I 228 i) (I 201 (I 228 i) - 1).toNat) → c + n = S 201 (I 228 i) → 0 ≤ c → w = bI (mInsA S i (I 228 i) (I 232 (4 * i))) → ((w = 0 ∧ is = 0) ∨ (w = 1 ∧ andI (mInsC S i (I 228 i)) 0 c is)) → VW m_Model_wantsInsert false (rmv 3 75) (ex K P J (mwants (mInsS I i (I 228 i) (I 201 (I 228 i) - 1).toNat) (I 228 i) (I 232 (4 * i))) (.inl (some (vI (bI (mInsOk (mInsS I i (I 228 i) (I 201 (I 228 i) - 1).toNat) i (I 228 i) (I 232 (4 * i)))))))) K P J S 0 0 121 [(0, vR (some 100)), (1, vI i), (2, vI (I 228 i)), (3, vI (I 232 (4 * i))), (4, vI is), (5, vI c)] [] := by
    intro S hS hS41 n
    have p0 := hS.pla i
    have k1 := hS.col (I 228 i)
    induction n with
    | zero =>
      intro c is w eS hc hq hw hs
      have h01 : is = 0 ∨ is = 1 := hs.elim (fun q => Or.inl q.2) (fun q => q.2.h01)
      have e : is = bI (mInsOk S i (I 228 i) (I 232 (4 * i))) := by
        rw [andI_and hs, show mInsOk S i (I 228 i) (I 232 (4 * i)) = (mInsA S i (I 228 i) (I 232 (4 * i)) ∧ ∀ j, 0 ≤ j → j < c → mInsC S i (I 228 i) j) from by unfold mInsOk; rw [show S 201 (I 228 i) = c by omega]]
        refine bIc ⟨fun z => ⟨?_, z.2⟩, fun z => ⟨?_, z.2⟩⟩
        · rcases bI_cases (mInsA S i (I 228 i) (I 232 (4 * i))) with ⟨q1, q2⟩ | ⟨q1, q2⟩
          · exact q1
          · exact absurd z.1 (by omega)
        · rw [hw]; exact bI1 z.1
      rw [← eS, ← e]
      refine VW.iload (pc' := 123) d_Model_wantsInsert_121 rfl rfl ?_
      refine VW.aload_n (pc' := 124) d_Model_wantsInsert_123 rfl rfl ?_
      refine VW.gP (ci := 11) (T := T11) (N := 94) (k := 1) (k' := 1) (pc' := 127) d_Model_wantsInsert_124 rfl lk_Model_7 in11 rfl rfl rfl rfl (hM.k rfl) (hM.p (r := some 201) 1 rfl rfl) ?_
      refine VW.iload_n (pc' := 128) d_Model_wantsInsert_127 rfl rfl ?_
      refine VW.ild (pc' := 129) d_Model_wantsInsert_128 rfl (hM.k rfl) (by omega) (by omega) (by first | assumption | (simp [up2] <;> rfl) | rfl) ?_
      refine VW.icmp_ge (tgt := 177) (pc' := 132) d_Model_wantsInsert_129 rfl rfl (fun c129 => ?_) (fun c129 => ?_)
      · refine VW.aload_n (pc' := 178) d_Model_wantsInsert_177 rfl rfl ?_
        refine VW.iload_n (pc' := 179) d_Model_wantsInsert_178 rfl rfl ?_
        refine VW.iload_n (pc' := 180) d_Model_wantsInsert_179 rfl rfl ?_
        refine VW.cV (ci := 11) (T := T11) (N := 94) (pc' := 183) d_Model_wantsInsert_180 rfl mv_Model_wants lk_Model_322 rfl (hM.k rfl) rfl rfl rfl (Nat.le_refl _) (Nat.le_refl _) (sp_Model_wants hM hS41) rfl rfl ?_
        refine VW.iload (pc' := 185) d_Model_wantsInsert_183 rfl rfl ?_
        exact VW.iret d_Model_wantsInsert_185 rfl (narZ h01) (Nat.zero_le _) (Nat.zero_le _) ex_rf
      · exfalso; omega
    | succ n ih =>
      intro c is w eS hc hq hw hs
      refine VW.iload (pc' := 123) d_Model_wantsInsert_121 rfl rfl ?_
      refine VW.aload_n (pc' := 124) d_Model_wantsInsert_123 rfl rfl ?_
      refine VW.gP (ci := 11) (T := T11) (N := 94) (k := 1) (k' := 1) (pc' := 127) d_Model_wantsInsert_124 rfl lk_Model_7 in11 rfl rfl rfl rfl (hM.k rfl) (hM.p (r := some 201) 1 rfl rfl) ?_
      refine VW.iload_n (pc' := 128) d_Model_wantsInsert_127 rfl rfl ?_
      refine VW.ild (pc' := 129) d_Model_wantsInsert_128 rfl (hM.k rfl) (by omega) (by omega) (by first | assumption | (simp [up2] <;> rfl) | rfl) ?_
      refine VW.icmp_ge (tgt := 177) (pc' := 132) d_Model_wantsInsert_129 rfl rfl (fun c129 => ?_) (fun c129 => ?_)
      · exfalso; omega
      · refine VW.iload (pc' := 134) d_Model_wantsInsert_132 rfl rfl ?_
        refine VW.if_eq (tgt := 168) (pc' := 137) d_Model_wantsInsert_134 rfl rfl (fun c134 => ?_) (fun c134 => ?_)
        · try have e134 := bIe c134
          refine VW.iconst (pc' := 169) d_Model_wantsInsert_168 rfl (by decide) ?_
          refine VW.istore (pc' := 171) d_Model_wantsInsert_169 rfl rfl ?_
          refine VW.iinc (pc' := 174) d_Model_wantsInsert_171 rfl rfl rfl (by omega) ?_
          refine VW.goto (pc' := 121) d_Model_wantsInsert_174 rfl ?_
          refine VW.nrm ?_
          exact ih (c + 1) _ w eS (by omega) (by omega) hw (by
            rcases hs with ⟨s1, s2⟩ | ⟨s1, s2⟩
            · exact Or.inl ⟨s1, by first | rfl | (exfalso; omega)⟩
            · refine Or.inr ⟨s1, ?_⟩
              first | exact s2.keep c134 | exact s2.yes c134 e161 | exact andI.no hq e161)
        · try have e134 := bIn c134
          refine VW.aload_n (pc' := 138) d_Model_wantsInsert_137 rfl rfl ?_
          refine VW.aload_n (pc' := 139) d_Model_wantsInsert_138 rfl rfl ?_
          refine VW.gP (ci := 11) (T := T11) (N := 94) (k := 23) (k' := 23) (pc' := 142) d_Model_wantsInsert_139 rfl lk_Model_67 in11 rfl rfl rfl rfl (hM.k rfl) (hM.p (r := some 223) 23 rfl rfl) ?_
          refine VW.iload_n (pc' := 143) d_Model_wantsInsert_142 rfl rfl ?_
          refine VW.ild (pc' := 144) d_Model_wantsInsert_143 rfl (hM.k rfl) (by omega) (by omega) (by first | assumption | (simp [up2] <;> rfl) | rfl) ?_
          refine VW.iload_n (pc' := 145) d_Model_wantsInsert_144 rfl rfl ?_
          refine VW.iload (pc' := 147) d_Model_wantsInsert_145 rfl rfl ?_
          refine VW.aload_n (pc' := 148) d_Model_wantsInsert_147 rfl rfl ?_
          refine VW.gP (ci := 11) (T := T11) (N := 94) (k := 32) (k' := 32) (pc' := 151) d_Model_wantsInsert_148 rfl lk_Model_95 in11 rfl rfl rfl rfl (hM.k rfl) (hM.p (r := some 232) 32 rfl rfl) ?_
          refine VW.iconst (pc' := 152) d_Model_wantsInsert_151 rfl (by decide) ?_
          refine VW.iload_n (pc' := 153) d_Model_wantsInsert_152 rfl rfl ?_
          refine VW.imul (pc' := 154) d_Model_wantsInsert_153 rfl (by omega) ?_
          refine VW.iload (pc' := 156) d_Model_wantsInsert_154 rfl rfl ?_
          refine VW.iadd (pc' := 157) d_Model_wantsInsert_156 rfl (by omega) ?_
          refine VW.ild (pc' := 158) d_Model_wantsInsert_157 rfl (hM.k rfl) (by omega) (by omega) (by first | assumption | (simp [up2] <;> rfl) | rfl) ?_
          refine VW.cV (ci := 11) (T := T11) (N := 94) (pc' := 161) d_Model_wantsInsert_158 rfl mv_Model_isAllowed lk_Model_318 rfl (hM.k rfl) rfl rfl rfl (Nat.le_refl _) (Nat.le_refl _) (sp_Model_isAllowed hM hS (by omega) (by omega) (by omega)) rfl rfl ?_
          refine VW.if_eq (tgt := 168) (pc' := 164) d_Model_wantsInsert_161 rfl rfl (fun c161 => ?_) (fun c161 => ?_)
          · try have e161 := bIe c161
            refine VW.iconst (pc' := 169) d_Model_wantsInsert_168 rfl (by decide) ?_
            refine VW.istore (pc' := 171) d_Model_wantsInsert_169 rfl rfl ?_
            refine VW.iinc (pc' := 174) d_Model_wantsInsert_171 rfl rfl rfl (by omega) ?_
            refine VW.goto (pc' := 121) d_Model_wantsInsert_174 rfl ?_
            refine VW.nrm ?_
            exact ih (c + 1) _ w eS (by omega) (by omega) hw (by
              rcases hs with ⟨s1, s2⟩ | ⟨s1, s2⟩
              · exact Or.inl ⟨s1, by first | rfl | (exfalso; omega)⟩
              · refine Or.inr ⟨s1, ?_⟩
                first | exact s2.keep c134 | exact s2.yes c134 e161 | exact andI.no hq e161)
          · try have e161 := bIn c161
            refine VW.iconst (pc' := 165) d_Model_wantsInsert_164 rfl (by decide) ?_
            refine VW.goto (pc' := 169) d_Model_wantsInsert_165 rfl ?_
            refine VW.istore (pc' := 171) d_Model_wantsInsert_169 rfl rfl ?_
            refine VW.iinc (pc' := 174) d_Model_wantsInsert_171 rfl rfl rfl (by omega) ?_
            refine VW.goto (pc' := 121) d_Model_wantsInsert_174 rfl ?_
            refine VW.nrm ?_
            exact ih (c + 1) _ w eS (by omega) (by omega) hw (by
              rcases hs with ⟨s1, s2⟩ | ⟨s1, s2⟩
              · exact Or.inl ⟨s1, by first | rfl | (exfalso; omega)⟩
              · refine Or.inr ⟨s1, ?_⟩
                first | exact s2.keep c134 | exact s2.yes c134 e161 | exact andI.no hq e161)
  have loop1 : ∀ (n m : Nat) (c : Int), (c + n = I 201 (I 228 i) ∨ (n = 0 ∧ c = 1 ∧ I 201 (I 228 i) ≤ 1)) → c = m + 1 → VW m_Model_wantsInsert false (rmv 3 75) (ex K P J (mwants (mInsS I i (I 228 i) (I 201 (I 228 i) - 1).toNat) (I 228 i) (I 232 (4 * i))) (.inl (some (vI (bI (mInsOk (mInsS I i (I 228 i) (I 201 (I 228 i) - 1).toNat) i (I 228 i) (I 232 (4 * i)))))))) K P J (mInsS I i (I 228 i) m) 0 0 32 [(0, vR (some 100)), (1, vI i), (2, vI (I 228 i)), (3, vI (I 232 (4 * i))), (4, vI c)] [] := by
    intro n
    induction n with
    | zero =>
      intro m c hc hm
      have fr := @mInsS_fr I i (I 228 i) m
      have hS := hb.fr fr
      have e201 := fr 201 (I 228 i) (by decide) (by decide) (by decide)
      have e41 := fr 100 41 (by decide) (by decide) (by decide)
      have eS : mInsS I i (I 228 i) m = (mInsS I i (I 228 i) (I 201 (I 228 i) - 1).toNat) := by rw [show (I 201 (I 228 i) - 1).toNat = m by omega]
      have p0 := hS.pla i
      have r0 := hS.row (6 * mInsS I i (I 228 i) m 223 i + I 228 i)
      refine VW.iload (pc' := 34) d_Model_wantsInsert_32 rfl rfl ?_
      refine VW.aload_n (pc' := 35) d_Model_wantsInsert_34 rfl rfl ?_
      refine VW.gP (ci := 11) (T := T11) (N := 94) (k := 1) (k' := 1) (pc' := 38) d_Model_wantsInsert_35 rfl lk_Model_7 in11 rfl rfl rfl rfl (hM.k rfl) (hM.p (r := some 201) 1 rfl rfl) ?_
      refine VW.iload_n (pc' := 39) d_Model_wantsInsert_38 rfl rfl ?_
      refine VW.ild (pc' := 40) d_Model_wantsInsert_39 rfl (hM.k rfl) (by omega) (by omega) (by first | assumption | (simp [up2] <;> rfl) | rfl) ?_
      refine VW.icmp_ge (tgt := 68) (pc' := 43) d_Model_wantsInsert_40 rfl rfl (fun c40 => ?_) (fun c40 => ?_)
      · refine VW.iload_n (pc' := 69) d_Model_wantsInsert_68 rfl rfl ?_
        refine VW.ldc (pc' := 71) (z := -2147483648) d_Model_wantsInsert_69 rfl lk_Model_246 (by decide) (by decide) ?_
        refine VW.icmp_eq (tgt := 115) (pc' := 74) d_Model_wantsInsert_71 rfl rfl (fun c71 => ?_) (fun c71 => ?_)
        · refine VW.iconst (pc' := 116) d_Model_wantsInsert_115 rfl (by decide) ?_
          refine VW.istore (pc' := 118) d_Model_wantsInsert_116 rfl rfl ?_
          refine VW.iconst (pc' := 119) d_Model_wantsInsert_118 rfl (by decide) ?_
          refine VW.istore (pc' := 121) d_Model_wantsInsert_119 rfl rfl ?_
          refine VW.nrm ?_
          have l2 := fun (is w : Int) => loop2 (mInsS I i (I 228 i) m) hS (by omega) (mInsS I i (I 228 i) m 201 (I 228 i)).toNat 0 is w eS (by omega) (by omega)
          first | exact l2 _ 1 (b1I ⟨c71, c87, c108⟩) (Or.inr ⟨rfl, andI.z⟩) | exact l2 _ 0 (b0I (fun z => z.1 c71)) (Or.inl ⟨rfl, rfl⟩) | exact l2 _ 0 (b0I (fun z => c87 z.2.1)) (Or.inl ⟨rfl, rfl⟩) | exact l2 _ 0 (b0I (fun z => by have := z.2.2; omega)) (Or.inl ⟨rfl, rfl⟩)
        · refine VW.aload_n (pc' := 75) d_Model_wantsInsert_74 rfl rfl ?_
          refine VW.aload_n (pc' := 76) d_Model_wantsInsert_75 rfl rfl ?_
          refine VW.gP (ci := 11) (T := T11) (N := 94) (k := 23) (k' := 23) (pc' := 79) d_Model_wantsInsert_76 rfl lk_Model_67 in11 rfl rfl rfl rfl (hM.k rfl) (hM.p (r := some 223) 23 rfl rfl) ?_
          refine VW.iload_n (pc' := 80) d_Model_wantsInsert_79 rfl rfl ?_
          refine VW.ild (pc' := 81) d_Model_wantsInsert_80 rfl (hM.k rfl) (by omega) (by omega) (by first | assumption | (simp [up2] <;> rfl) | rfl) ?_
          refine VW.iload_n (pc' := 82) d_Model_wantsInsert_81 rfl rfl ?_
          refine VW.iload_n (pc' := 83) d_Model_wantsInsert_82 rfl rfl ?_
          refine VW.cV (ci := 11) (T := T11) (N := 94) (pc' := 86) d_Model_wantsInsert_83 rfl mv_Model_find lk_Model_305 rfl (hM.k rfl) rfl rfl rfl (Nat.le_refl _) (Nat.le_refl _) (sp_Model_find hM (by omega) (by omega) (by omega)) rfl rfl ?_
          refine VW.iconst (pc' := 87) d_Model_wantsInsert_86 rfl (by decide) ?_
          refine VW.icmp_ne (tgt := 115) (pc' := 90) d_Model_wantsInsert_87 rfl rfl (fun c87 => ?_) (fun c87 => ?_)
          · refine VW.iconst (pc' := 116) d_Model_wantsInsert_115 rfl (by decide) ?_
            refine VW.istore (pc' := 118) d_Model_wantsInsert_116 rfl rfl ?_
            refine VW.iconst (pc' := 119) d_Model_wantsInsert_118 rfl (by decide) ?_
            refine VW.istore (pc' := 121) d_Model_wantsInsert_119 rfl rfl ?_
            refine VW.nrm ?_
            have l2 := fun (is w : Int) => loop2 (mInsS I i (I 228 i) m) hS (by omega) (mInsS I i (I 228 i) m 201 (I 228 i)).toNat 0 is w eS (by omega) (by omega)
            first | exact l2 _ 1 (b1I ⟨c71, c87, c108⟩) (Or.inr ⟨rfl, andI.z⟩) | exact l2 _ 0 (b0I (fun z => z.1 c71)) (Or.inl ⟨rfl, rfl⟩) | exact l2 _ 0 (b0I (fun z => c87 z.2.1)) (Or.inl ⟨rfl, rfl⟩) | exact l2 _ 0 (b0I (fun z => by have := z.2.2; omega)) (Or.inl ⟨rfl, rfl⟩)
          · refine VW.aload_n (pc' := 91) d_Model_wantsInsert_90 rfl rfl ?_
            refine VW.gP (ci := 11) (T := T11) (N := 94) (k := 14) (k' := 14) (pc' := 94) d_Model_wantsInsert_91 rfl lk_Model_46 in11 rfl rfl rfl rfl (hM.k rfl) (hM.p (r := some 214) 14 rfl rfl) ?_
            refine VW.bipush (pc' := 96) d_Model_wantsInsert_94 rfl (by decide) ?_
            refine VW.aload_n (pc' := 97) d_Model_wantsInsert_96 rfl rfl ?_
            refine VW.gP (ci := 11) (T := T11) (N := 94) (k := 23) (k' := 23) (pc' := 100) d_Model_wantsInsert_97 rfl lk_Model_67 in11 rfl rfl rfl rfl (hM.k rfl) (hM.p (r := some 223) 23 rfl rfl) ?_
            refine VW.iload_n (pc' := 101) d_Model_wantsInsert_100 rfl rfl ?_
            refine VW.ild (pc' := 102) d_Model_wantsInsert_101 rfl (hM.k rfl) (by omega) (by omega) (by first | assumption | (simp [up2] <;> rfl) | rfl) ?_
            refine VW.imul (pc' := 103) d_Model_wantsInsert_102 rfl (by omega) ?_
            refine VW.iload_n (pc' := 104) d_Model_wantsInsert_103 rfl rfl ?_
            refine VW.iadd (pc' := 105) d_Model_wantsInsert_104 rfl (by omega) ?_
            refine VW.ild (pc' := 106) d_Model_wantsInsert_105 rfl (hM.k rfl) (by omega) (by omega) (by first | assumption | (simp [up2] <;> rfl) | rfl) ?_
            refine VW.bipush (pc' := 108) d_Model_wantsInsert_106 rfl (by decide) ?_
            refine VW.icmp_ge (tgt := 115) (pc' := 111) d_Model_wantsInsert_108 rfl rfl (fun c108 => ?_) (fun c108 => ?_)
            · refine VW.iconst (pc' := 116) d_Model_wantsInsert_115 rfl (by decide) ?_
              refine VW.istore (pc' := 118) d_Model_wantsInsert_116 rfl rfl ?_
              refine VW.iconst (pc' := 119) d_Model_wantsInsert_118 rfl (by decide) ?_
              refine VW.istore (pc' := 121) d_Model_wantsInsert_119 rfl rfl ?_
              refine VW.nrm ?_
              have l2 := fun (is w : Int) => loop2 (mInsS I i (I 228 i) m) hS (by omega) (mInsS I i (I 228 i) m 201 (I 228 i)).toNat 0 is w eS (by omega) (by omega)
              first | exact l2 _ 1 (b1I ⟨c71, c87, c108⟩) (Or.inr ⟨rfl, andI.z⟩) | exact l2 _ 0 (b0I (fun z => z.1 c71)) (Or.inl ⟨rfl, rfl⟩) | exact l2 _ 0 (b0I (fun z => c87 z.2.1)) (Or.inl ⟨rfl, rfl⟩) | exact l2 _ 0 (b0I (fun z => by have := z.2.2; omega)) (Or.inl ⟨rfl, rfl⟩)
            · refine VW.iconst (pc' := 112) d_Model_wantsInsert_111 rfl (by decide) ?_
              refine VW.goto (pc' := 116) d_Model_wantsInsert_112 rfl ?_
              refine VW.istore (pc' := 118) d_Model_wantsInsert_116 rfl rfl ?_
              refine VW.iconst (pc' := 119) d_Model_wantsInsert_118 rfl (by decide) ?_
              refine VW.istore (pc' := 121) d_Model_wantsInsert_119 rfl rfl ?_
              refine VW.nrm ?_
              have l2 := fun (is w : Int) => loop2 (mInsS I i (I 228 i) m) hS (by omega) (mInsS I i (I 228 i) m 201 (I 228 i)).toNat 0 is w eS (by omega) (by omega)
              first | exact l2 _ 1 (b1I ⟨c71, c87, c108⟩) (Or.inr ⟨rfl, andI.z⟩) | exact l2 _ 0 (b0I (fun z => z.1 c71)) (Or.inl ⟨rfl, rfl⟩) | exact l2 _ 0 (b0I (fun z => c87 z.2.1)) (Or.inl ⟨rfl, rfl⟩) | exact l2 _ 0 (b0I (fun z => by have := z.2.2; omega)) (Or.inl ⟨rfl, rfl⟩)
      · exfalso; omega
    | succ n ih =>
      intro m c hc hm
      have fr := @mInsS_fr I i (I 228 i) m
      have hS := hb.fr fr
      have e201 := fr 201 (I 228 i) (by decide) (by decide) (by decide)
      have n0 := @mInsS_n I i (I 228 i) m
      subst hm
      refine VW.iload (pc' := 34) d_Model_wantsInsert_32 rfl rfl ?_
      refine VW.aload_n (pc' := 35) d_Model_wantsInsert_34 rfl rfl ?_
      refine VW.gP (ci := 11) (T := T11) (N := 94) (k := 1) (k' := 1) (pc' := 38) d_Model_wantsInsert_35 rfl lk_Model_7 in11 rfl rfl rfl rfl (hM.k rfl) (hM.p (r := some 201) 1 rfl rfl) ?_
      refine VW.iload_n (pc' := 39) d_Model_wantsInsert_38 rfl rfl ?_
      refine VW.ild (pc' := 40) d_Model_wantsInsert_39 rfl (hM.k rfl) (by omega) (by omega) (by first | assumption | (simp [up2] <;> rfl) | rfl) ?_
      refine VW.icmp_ge (tgt := 68) (pc' := 43) d_Model_wantsInsert_40 rfl rfl (fun c40 => ?_) (fun c40 => ?_)
      · exfalso; omega
      · refine VW.aload_n (pc' := 44) d_Model_wantsInsert_43 rfl rfl ?_
        refine VW.iload_n (pc' := 45) d_Model_wantsInsert_44 rfl rfl ?_
        refine VW.iload_n (pc' := 46) d_Model_wantsInsert_45 rfl rfl ?_
        refine VW.iload (pc' := 48) d_Model_wantsInsert_46 rfl rfl ?_
        refine VW.aload_n (pc' := 49) d_Model_wantsInsert_48 rfl rfl ?_
        refine VW.gP (ci := 11) (T := T11) (N := 94) (k := 32) (k' := 32) (pc' := 52) d_Model_wantsInsert_49 rfl lk_Model_95 in11 rfl rfl rfl rfl (hM.k rfl) (hM.p (r := some 232) 32 rfl rfl) ?_
        refine VW.iconst (pc' := 53) d_Model_wantsInsert_52 rfl (by decide) ?_
        refine VW.iload_n (pc' := 54) d_Model_wantsInsert_53 rfl rfl ?_
        refine VW.imul (pc' := 55) d_Model_wantsInsert_54 rfl (by omega) ?_
        refine VW.iload (pc' := 57) d_Model_wantsInsert_55 rfl rfl ?_
        refine VW.iadd (pc' := 58) d_Model_wantsInsert_57 rfl (by omega) ?_
        refine VW.ild (pc' := 59) d_Model_wantsInsert_58 rfl (hM.k rfl) (by omega) (by omega) (by first | assumption | (simp [up2] <;> rfl) | rfl) ?_
        refine VW.cV (ci := 11) (T := T11) (N := 94) (pc' := 62) d_Model_wantsInsert_59 rfl mv_Model_readsReference lk_Model_315 rfl (hM.k rfl) rfl rfl rfl (Nat.le_refl _) (Nat.le_refl _) (sp_Model_readsReference hM hS (by omega) (by omega) (by omega) (by omega)) rfl rfl ?_
        refine VW.iinc (pc' := 65) d_Model_wantsInsert_62 rfl rfl rfl (by omega) ?_
        refine VW.goto (pc' := 32) d_Model_wantsInsert_65 rfl ?_
        refine VW.nrm ?_
        exact ih (m + 1) _ (by omega) (by omega)
  refine VW.aload_n (pc' := 1) d_Model_wantsInsert_0 rfl rfl ?_
  refine VW.gP (ci := 11) (T := T11) (N := 94) (k := 28) (k' := 28) (pc' := 4) d_Model_wantsInsert_1 rfl lk_Model_83 in11 rfl rfl rfl rfl (hM.k rfl) (hM.p (r := some 228) 28 rfl rfl) ?_
  refine VW.iload_n (pc' := 5) d_Model_wantsInsert_4 rfl rfl ?_
  refine VW.ild (pc' := 6) d_Model_wantsInsert_5 rfl (hM.k rfl) (by omega) (by omega) (by first | assumption | (simp [up2] <;> rfl) | rfl) ?_
  refine VW.istore_n (pc' := 7) d_Model_wantsInsert_6 rfl rfl ?_
  refine VW.aload_n (pc' := 8) d_Model_wantsInsert_7 rfl rfl ?_
  refine VW.gP (ci := 11) (T := T11) (N := 94) (k := 32) (k' := 32) (pc' := 11) d_Model_wantsInsert_8 rfl lk_Model_95 in11 rfl rfl rfl rfl (hM.k rfl) (hM.p (r := some 232) 32 rfl rfl) ?_
  refine VW.iconst (pc' := 12) d_Model_wantsInsert_11 rfl (by decide) ?_
  refine VW.iload_n (pc' := 13) d_Model_wantsInsert_12 rfl rfl ?_
  refine VW.imul (pc' := 14) d_Model_wantsInsert_13 rfl (by omega) ?_
  refine VW.ild (pc' := 15) d_Model_wantsInsert_14 rfl (hM.k rfl) (by omega) (by omega) (by first | assumption | (simp [up2] <;> rfl) | rfl) ?_
  refine VW.istore_n (pc' := 16) d_Model_wantsInsert_15 rfl rfl ?_
  refine VW.iload_n (pc' := 17) d_Model_wantsInsert_16 rfl rfl ?_
  refine VW.ldc (pc' := 19) (z := -2147483648) d_Model_wantsInsert_17 rfl lk_Model_246 (by decide) (by decide) ?_
  refine VW.icmp_eq (tgt := 29) (pc' := 22) d_Model_wantsInsert_19 rfl rfl (fun c19 => ?_) (fun c19 => ?_)
  · refine VW.iconst (pc' := 30) d_Model_wantsInsert_29 rfl (by decide) ?_
    refine VW.istore (pc' := 32) d_Model_wantsInsert_30 rfl rfl ?_
    refine VW.nrm ?_
    have h := loop1 (I 201 (I 228 i) - 1).toNat 0 1 (by omega) (by omega)
    first | (rw [mInsS_0 c19] at h; exact h) | (rw [mInsS_1 c19] at h; exact h)
  · refine VW.aload_n (pc' := 23) d_Model_wantsInsert_22 rfl rfl ?_
    refine VW.iload_n (pc' := 24) d_Model_wantsInsert_23 rfl rfl ?_
    refine VW.iload_n (pc' := 25) d_Model_wantsInsert_24 rfl rfl ?_
    refine VW.iload_n (pc' := 26) d_Model_wantsInsert_25 rfl rfl ?_
    refine VW.cV (ci := 11) (T := T11) (N := 94) (pc' := 29) d_Model_wantsInsert_26 rfl mv_Model_readsKey lk_Model_308 rfl (hM.k rfl) rfl rfl rfl (Nat.le_refl _) (Nat.le_refl _) (sp_Model_readsKey hM hb hi ht (by omega)) rfl rfl ?_
    refine VW.iconst (pc' := 30) d_Model_wantsInsert_29 rfl (by decide) ?_
    refine VW.istore (pc' := 32) d_Model_wantsInsert_30 rfl rfl ?_
    refine VW.nrm ?_
    have h := loop1 (I 201 (I 228 i) - 1).toNat 0 1 (by omega) (by omega)
    first | (rw [mInsS_0 c19] at h; exact h) | (rw [mInsS_1 c19] at h; exact h)
end
