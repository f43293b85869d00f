section
variable {K : KT} {P : PT} {J I : IT} {Q : PQ}
/-- the operator k above a scan leaves what is read to those above it -/
def mSkip (I : IT) (k : Int) : Prop := I 256 k = 2 ∨ (I 256 k = 1 ∧ (0 < I 257 k ∨ I 258 k ≠ 1 ∨ I 260 k ≠ 0))
/-- the first operator from k on, of n, that does not -/
noncomputable def mStop (I : IT) (k : Int) (n : Nat) : Int := fs (fun z => ¬ mSkip I z) k n
/-- what a scan at x reads, with n operators above -/
noncomputable def mRa1 (S : IT) (i x : Int) (n : Nat) : IT := if mStop S (x + 1) n ≠ -1 ∧ S 256 (mStop S (x + 1) n) = 1 then mReadsKey S i (S 257 x) (S 259 (mStop S (x + 1) n)) else up2 S 236 (6 * i + S 257 x) 1
theorem mRa1_k {S : IT} {i x z : Int} {n : Nat} (h : mStop S (x + 1) n = z) (h1 : z ≠ -1) (h2 : S 256 z = 1) : mRa1 S i x n = mReadsKey S i (S 257 x) (S 259 z) := by
  unfold mRa1
  rw [h, if_pos ⟨h1, h2⟩]
theorem mRa1_w {S : IT} {i x : Int} {n : Nat} (h : ¬ (mStop S (x + 1) n ≠ -1 ∧ S 256 (mStop S (x + 1) n) = 1)) : mRa1 S i x n = up2 S 236 (6 * i + S 257 x) 1 := if_neg h
theorem mRa1_fr {S : IT} {i x : Int} {n : Nat} (o : Nat) (q : Int) (h1 : o < 233 ∨ 236 < o) : mRa1 S i x n o q = S o q := by
  unfold mRa1
  split
  · exact mReadsKey_fr o q (by omega) (by omega) (by omega)
  · exact up2_o _ _ _ _ (by omega)
theorem mRa1_236 {S : IT} {i x : Int} {n : Nat} (q : Int) : mRa1 S i x n 236 q = 1 ∨ mRa1 S i x n 236 q = S 236 q := by
  unfold mRa1
  split
  · exact Or.inr (mReadsKey_fr 236 q (by decide) (by decide) (by decide))
  · unfold up2
    split
    · exact Or.inl rfl
    · exact Or.inr rfl
theorem mRa1_233 {S : IT} {i x : Int} {n : Nat} : S 233 i ≤ mRa1 S i x n 233 i ∧ mRa1 S i x n 233 i ≤ S 233 i + 1 := by
  unfold mRa1
  split
  · exact mReadsKey_n
  · rw [up2_o _ _ _ _ (by decide)]; omega
/-- what a query of n operators from x on reads: the first k of them -/
noncomputable def mRa (I : IT) (i x : Int) (n : Nat) : Nat → IT
  | 0 => I
  | k + 1 => if I 256 (x + k) = 0 then mRa1 (mRa I i x n k) i (x + k) (n - k - 1) else mRa I i x n k
theorem mRa_yes {i x : Int} {n k : Nat} (h : I 256 (x + k) = 0) : mRa I i x n (k + 1) = mRa1 (mRa I i x n k) i (x + k) (n - k - 1) := if_pos h
theorem mRa_no {i x : Int} {n k : Nat} (h : ¬ I 256 (x + k) = 0) : mRa I i x n (k + 1) = mRa I i x n k := if_neg h
theorem mRa_fr {i x : Int} {n : Nat} (k : Nat) : ∀ (o : Nat) (q : Int), (o < 233 ∨ 236 < o) → mRa I i x n k o q = I o q := by
  induction k with
  | zero => intro o q h; rfl
  | succ k ih =>
    intro o q h
    by_cases g : I 256 (x + k) = 0
    · rw [mRa_yes g, mRa1_fr o q h]; exact ih o q h
    · rw [mRa_no g]; exact ih o q h
theorem mRa_236 {i x : Int} {n : Nat} (k : Nat) (q : Int) : mRa I i x n k 236 q = 1 ∨ mRa I i x n k 236 q = I 236 q := by
  induction k with
  | zero => exact Or.inr rfl
  | succ k ih =>
    by_cases g : I 256 (x + k) = 0
    · rw [mRa_yes g]
      rcases @mRa1_236 (mRa I i x n k) i (x + k) (n - k - 1) q with z | z
      · exact Or.inl z
      · rw [z]; exact ih
    · rw [mRa_no g]; exact ih
theorem mRa_233 {i x : Int} {n : Nat} (k : Nat) : I 233 i ≤ mRa I i x n k 233 i ∧ mRa I i x n k 233 i ≤ I 233 i + k := by
  induction k with
  | zero => exact ⟨Int.le_refl _, by show I 233 i ≤ I 233 i + 0; omega⟩
  | succ k ih =>
    by_cases g : I 256 (x + k) = 0
    · rw [mRa_yes g]
      have := @mRa1_233 (mRa I i x n k) i (x + k) (n - k - 1)
      omega
    · rw [mRa_no g]; omega
theorem MB.fra {S : IT} (h : MB I) (f : ∀ (o : Nat) (q : Int), (o < 233 ∨ 236 < o) → S o q = I o q) (g : ∀ q, S 236 q = 1 ∨ S 236 q = I 236 q) : MB S :=
  h.of (f 100 0 (by decide)) (f 100 8 (by decide)) (f 100 19 (by decide)) (fun k => f 201 k (by decide)) (fun k => f 202 k (by decide)) (fun k => f 206 k (by decide)) (fun k => f 211 k (by decide)) (fun k => by rw [f 214 k (by decide)]; exact h.row k) (fun k => f 223 k (by decide)) (fun k => (g k).elim Or.inr (fun z => by rw [z]; exact h.who k))
theorem sp_Model_readsAll {i q : Int} {n : Nat} (hM : MW K P) (hb : MB I) (hi : 0 ≤ i ∧ i < 60) (hq : 0 ≤ q ∧ q < 20) (hz : I 262 q = n) (hn : n ≤ 12) (hA : ∀ k : Nat, k < n → I 256 (12 * (q + 1) + k) = 0 → 0 ≤ I 257 (12 * (q + 1) + k) ∧ I 257 (12 * (q + 1) + k) < 6) (hr : 0 ≤ I 233 i ∧ I 233 i ≤ 2030) : Sp m_Model_readsAll false (rmv 2 49) (ex K P J (mRa I i (12 * (q + 1)) n n) (.inl none)) K P J I [vR (some 100), vI i, vI q] := by
  refine Sp.ofV (by decide) (Or.inr rfl) rfl ?_
  have loop : ∀ (l k : Nat), k + l = n → VW m_Model_readsAll false (rmv 2 49) (ex K P J (mRa I i (12 * (q + 1)) n n) (.inl none)) K P J (mRa I i (12 * (q + 1)) n k) 0 0 18 [(0, vR (some 100)), (1, vI i), (2, vI q), (3, vI (12 * (q + 1) + (n : Int))), (4, vI (12 * (q + 1) + (k : Int)))] [] := by
    intro l
    induction l with
    | zero =>
      intro k hk
      have ek : k = n := by omega
      rw [ek]
      refine VW.iload (pc' := 20) d_Model_readsAll_18 rfl rfl ?_
      refine VW.iload_n (pc' := 21) d_Model_readsAll_20 rfl rfl ?_
      refine VW.icmp_ge (tgt := 168) (pc' := 24) d_Model_readsAll_21 rfl rfl (fun c21 => ?_) (fun c21 => ?_)
      · exact VW.vret d_Model_readsAll_168 rfl (Nat.zero_le _) (Nat.zero_le _) ex_rf
      · exfalso; omega
    | succ l ih =>
      intro k hk
      have ek : ((k + 1 : Nat) : Int) = (k : Int) + 1 := by omega
      have ih1 := ih (k + 1) (by omega)
      rw [ek, ← Int.add_assoc] at ih1
      have fr := @mRa_fr I i (12 * (q + 1)) n k
      have hbS := hb.fra fr (mRa_236 k)
      have r3 := @mRa_233 I i (12 * (q + 1)) n k
      have g256 := fr 256 (12 * (q + 1) + k) (by decide)
      have hA1 := hA k (by omega)
      rw [← g256, ← fr 257 (12 * (q + 1) + k) (by decide)] at hA1
      have no : mRa I i (12 * (q + 1)) n k 256 (12 * (q + 1) + k) ≠ 0 → VW m_Model_readsAll false (rmv 2 49) (ex K P J (mRa I i (12 * (q + 1)) n n) (.inl none)) K P J (mRa I i (12 * (q + 1)) n k) 0 0 18 [(0, vR (some 100)), (1, vI i), (2, vI q), (3, vI (12 * (q + 1) + (n : Int))), (4, vI (12 * (q + 1) + (k : Int) + 1))] [] := fun z => by
        rw [mRa_no (by rw [← g256]; exact z)] at ih1
        exact ih1
      have yes : mRa I i (12 * (q + 1)) n k 256 (12 * (q + 1) + k) = 0 → VW m_Model_readsAll false (rmv 2 49) (ex K P J (mRa I i (12 * (q + 1)) n n) (.inl none)) K P J (mRa1 (mRa I i (12 * (q + 1)) n k) i (12 * (q + 1) + k) (n - k - 1)) 0 0 18 [(0, vR (some 100)), (1, vI i), (2, vI q), (3, vI (12 * (q + 1) + (n : Int))), (4, vI (12 * (q + 1) + (k : Int) + 1))] [] := fun z => by
        rw [mRa_yes (by rw [← g256]; exact z)] at ih1
        exact ih1
      clear ih ih1 fr hA g256
      generalize mRa I i (12 * (q + 1)) n k = S at *
      have srch : S 256 (12 * (q + 1) + k) = 0 → ∀ (l2 j : Nat), k + 1 + j + l2 = n → mStop S (12 * (q + 1) + k + 1) (n - k - 1) = mStop S (12 * (q + 1) + k + 1 + j) l2 → VW m_Model_readsAll false (rmv 2 49) (ex K P J (mRa I i (12 * (q + 1)) n n) (.inl none)) K P J S 0 0 40 [(0, vR (some 100)), (1, vI i), (2, vI q), (3, vI (12 * (q + 1) + (n : Int))), (4, vI (12 * (q + 1) + (k : Int))), (5, vI (12 * (q + 1) + (k : Int) + 1 + (j : Int)))] [] := by
        intro h0 l2
        have nx := yes h0
        have hA2 := hA1 h0
        clear yes no
        induction l2 with
        | zero =>
          intro j hj he
          have e : mStop S (12 * (q + 1) + k + 1) (n - k - 1) = -1 := he
          rw [mRa1_w (fun z => z.1 e)] at nx
          refine VW.iload (pc' := 42) d_Model_readsAll_40 rfl rfl ?_
          refine VW.iload_n (pc' := 43) d_Model_readsAll_42 rfl rfl ?_
          refine VW.icmp_ge (tgt := 105) (pc' := 46) d_Model_readsAll_43 rfl rfl (fun c43 => ?_) (fun c43 => ?_)
          · refine VW.iload (pc' := 107) d_Model_readsAll_105 rfl rfl ?_
            refine VW.iload_n (pc' := 108) d_Model_readsAll_107 rfl rfl ?_
            refine VW.icmp_ge (tgt := 144) (pc' := 111) d_Model_readsAll_108 rfl rfl (fun c108 => ?_) (fun c108 => ?_)
            · refine VW.aload_n (pc' := 145) d_Model_readsAll_144 rfl rfl ?_
              refine VW.gP (ci := 11) (T := T11) (N := 94) (k := 36) (k' := 36) (pc' := 148) d_Model_readsAll_145 rfl lk_Model_108 in11 rfl rfl rfl rfl (hM.k rfl) (hM.p (r := some 236) 36 rfl rfl) ?_
              refine VW.bipush (pc' := 150) d_Model_readsAll_148 rfl (by decide) ?_
              refine VW.iload_n (pc' := 151) d_Model_readsAll_150 rfl rfl ?_
              refine VW.imul (pc' := 152) d_Model_readsAll_151 rfl (by omega) ?_
              refine VW.aload_n (pc' := 153) d_Model_readsAll_152 rfl rfl ?_
              refine VW.gP (ci := 11) (T := T11) (N := 94) (k := 57) (k' := 57) (pc' := 156) d_Model_readsAll_153 rfl lk_Model_147 in11 rfl rfl rfl rfl (hM.k rfl) (hM.p (r := some 257) 57 rfl rfl) ?_
              refine VW.iload (pc' := 158) d_Model_readsAll_156 rfl rfl ?_
              refine VW.ild (pc' := 159) d_Model_readsAll_158 rfl (hM.k rfl) (by omega) (by omega) (rfl) ?_
              refine VW.iadd (pc' := 160) d_Model_readsAll_159 rfl (by omega) ?_
              refine VW.iconst (pc' := 161) d_Model_readsAll_160 rfl (by decide) ?_
              refine VW.zast (pc' := 162) d_Model_readsAll_161 rfl (hM.k rfl) (by omega) (by omega) (by omega) ?_
              refine VW.iinc (pc' := 165) d_Model_readsAll_162 rfl rfl rfl (by omega) ?_
              refine VW.goto (pc' := 18) d_Model_readsAll_165 rfl ?_
              refine VW.pick [0, 1, 2, 3, 4] ?_
              exact nx
            · exfalso; omega
          · exfalso; omega
        | succ l2 ih2 =>
          intro j hj he
          have ej : ((j + 1 : Nat) : Int) = (j : Int) + 1 := by omega
          have skip : mSkip S (12 * (q + 1) + k + 1 + j) → VW m_Model_readsAll false (rmv 2 49) (ex K P J (mRa I i (12 * (q + 1)) n n) (.inl none)) K P J S 0 0 40 [(0, vR (some 100)), (1, vI i), (2, vI q), (3, vI (12 * (q + 1) + (n : Int))), (4, vI (12 * (q + 1) + (k : Int))), (5, vI (12 * (q + 1) + (k : Int) + 1 + (j : Int) + 1))] [] := fun z => by
            have := ih2 (j + 1) (by omega) (he.trans (by
              unfold mStop
              rw [fs_no (g := fun z => ¬ mSkip S z) (fun y => y z), ej, Int.add_assoc]))
            rw [ej, ← Int.add_assoc] at this
            exact this
          have at1 : ¬ mSkip S (12 * (q + 1) + k + 1 + j) → mStop S (12 * (q + 1) + k + 1) (n - k - 1) = 12 * (q + 1) + k + 1 + j := fun z => he.trans (by unfold mStop; exact fs_yes (g := fun z => ¬ mSkip S z) z)
          have nk : ¬ mSkip S (12 * (q + 1) + k + 1 + j) → S 256 (12 * (q + 1) + k + 1 + j) = 1 → VW m_Model_readsAll false (rmv 2 49) (ex K P J (mRa I i (12 * (q + 1)) n n) (.inl none)) K P J (mReadsKey S i (S 257 (12 * (q + 1) + k)) (S 259 (12 * (q + 1) + k + 1 + j))) 0 0 18 [(0, vR (some 100)), (1, vI i), (2, vI q), (3, vI (12 * (q + 1) + (n : Int))), (4, vI (12 * (q + 1) + (k : Int) + 1))] [] := fun z z2 => by
            rw [mRa1_k (at1 z) (by omega) z2] at nx
            exact nx
          have nw : ¬ mSkip S (12 * (q + 1) + k + 1 + j) → S 256 (12 * (q + 1) + k + 1 + j) ≠ 1 → VW m_Model_readsAll false (rmv 2 49) (ex K P J (mRa I i (12 * (q + 1)) n n) (.inl none)) K P J (up2 S 236 (6 * i + S 257 (12 * (q + 1) + k)) 1) 0 0 18 [(0, vR (some 100)), (1, vI i), (2, vI q), (3, vI (12 * (q + 1) + (n : Int))), (4, vI (12 * (q + 1) + (k : Int) + 1))] [] := fun z z2 => by
            rw [mRa1_w (fun y => by rw [at1 z] at y; exact z2 y.2)] at nx
            exact nx
          clear ih2 nx at1 he
          refine VW.iload (pc' := 42) d_Model_readsAll_40 rfl rfl ?_
          refine VW.iload_n (pc' := 43) d_Model_readsAll_42 rfl rfl ?_
          refine VW.icmp_ge (tgt := 105) (pc' := 46) d_Model_readsAll_43 rfl rfl (fun c43 => ?_) (fun c43 => ?_)
          · refine VW.iload (pc' := 107) d_Model_readsAll_105 rfl rfl ?_
            refine VW.iload_n (pc' := 108) d_Model_readsAll_107 rfl rfl ?_
            refine VW.icmp_ge (tgt := 144) (pc' := 111) d_Model_readsAll_108 rfl rfl (fun c108 => ?_) (fun c108 => ?_)
            · refine VW.aload_n (pc' := 145) d_Model_readsAll_144 rfl rfl ?_
              refine VW.gP (ci := 11) (T := T11) (N := 94) (k := 36) (k' := 36) (pc' := 148) d_Model_readsAll_145 rfl lk_Model_108 in11 rfl rfl rfl rfl (hM.k rfl) (hM.p (r := some 236) 36 rfl rfl) ?_
              refine VW.bipush (pc' := 150) d_Model_readsAll_148 rfl (by decide) ?_
              refine VW.iload_n (pc' := 151) d_Model_readsAll_150 rfl rfl ?_
              refine VW.imul (pc' := 152) d_Model_readsAll_151 rfl (by omega) ?_
              refine VW.aload_n (pc' := 153) d_Model_readsAll_152 rfl rfl ?_
              refine VW.gP (ci := 11) (T := T11) (N := 94) (k := 57) (k' := 57) (pc' := 156) d_Model_readsAll_153 rfl lk_Model_147 in11 rfl rfl rfl rfl (hM.k rfl) (hM.p (r := some 257) 57 rfl rfl) ?_
              refine VW.iload (pc' := 158) d_Model_readsAll_156 rfl rfl ?_
              refine VW.ild (pc' := 159) d_Model_readsAll_158 rfl (hM.k rfl) (by omega) (by omega) (rfl) ?_
              refine VW.iadd (pc' := 160) d_Model_readsAll_159 rfl (by omega) ?_
              refine VW.iconst (pc' := 161) d_Model_readsAll_160 rfl (by decide) ?_
              refine VW.zast (pc' := 162) d_Model_readsAll_161 rfl (hM.k rfl) (by omega) (by omega) (by omega) ?_
              refine VW.iinc (pc' := 165) d_Model_readsAll_162 rfl rfl rfl (by omega) ?_
              refine VW.goto (pc' := 18) d_Model_readsAll_165 rfl ?_
              refine VW.pick [0, 1, 2, 3, 4] ?_
              first | (exfalso; omega) | exact nk (fun y => y.elim c54 (fun y => y.2.elim (fun v => by omega) (fun v => v.elim (fun v2 => v2 c86) (fun v2 => v2 c96)))) c119 | exact nw (fun y => y.elim c54 (fun y => c65 y.1)) c119
            · refine VW.aload_n (pc' := 112) d_Model_readsAll_111 rfl rfl ?_
              refine VW.gP (ci := 11) (T := T11) (N := 94) (k := 56) (k' := 56) (pc' := 115) d_Model_readsAll_112 rfl lk_Model_144 in11 rfl rfl rfl rfl (hM.k rfl) (hM.p (r := some 256) 56 rfl rfl) ?_
              refine VW.iload (pc' := 117) d_Model_readsAll_115 rfl rfl ?_
              refine VW.ild (pc' := 118) d_Model_readsAll_117 rfl (hM.k rfl) (by omega) (by omega) (rfl) ?_
              refine VW.iconst (pc' := 119) d_Model_readsAll_118 rfl (by decide) ?_
              refine VW.icmp_ne (tgt := 144) (pc' := 122) d_Model_readsAll_119 rfl rfl (fun c119 => ?_) (fun c119 => ?_)
              · refine VW.aload_n (pc' := 145) d_Model_readsAll_144 rfl rfl ?_
                refine VW.gP (ci := 11) (T := T11) (N := 94) (k := 36) (k' := 36) (pc' := 148) d_Model_readsAll_145 rfl lk_Model_108 in11 rfl rfl rfl rfl (hM.k rfl) (hM.p (r := some 236) 36 rfl rfl) ?_
                refine VW.bipush (pc' := 150) d_Model_readsAll_148 rfl (by decide) ?_
                refine VW.iload_n (pc' := 151) d_Model_readsAll_150 rfl rfl ?_
                refine VW.imul (pc' := 152) d_Model_readsAll_151 rfl (by omega) ?_
                refine VW.aload_n (pc' := 153) d_Model_readsAll_152 rfl rfl ?_
                refine VW.gP (ci := 11) (T := T11) (N := 94) (k := 57) (k' := 57) (pc' := 156) d_Model_readsAll_153 rfl lk_Model_147 in11 rfl rfl rfl rfl (hM.k rfl) (hM.p (r := some 257) 57 rfl rfl) ?_
                refine VW.iload (pc' := 158) d_Model_readsAll_156 rfl rfl ?_
                refine VW.ild (pc' := 159) d_Model_readsAll_158 rfl (hM.k rfl) (by omega) (by omega) (rfl) ?_
                refine VW.iadd (pc' := 160) d_Model_readsAll_159 rfl (by omega) ?_
                refine VW.iconst (pc' := 161) d_Model_readsAll_160 rfl (by decide) ?_
                refine VW.zast (pc' := 162) d_Model_readsAll_161 rfl (hM.k rfl) (by omega) (by omega) (by omega) ?_
                refine VW.iinc (pc' := 165) d_Model_readsAll_162 rfl rfl rfl (by omega) ?_
                refine VW.goto (pc' := 18) d_Model_readsAll_165 rfl ?_
                refine VW.pick [0, 1, 2, 3, 4] ?_
                first | (exfalso; omega) | exact nk (fun y => y.elim c54 (fun y => y.2.elim (fun v => by omega) (fun v => v.elim (fun v2 => v2 c86) (fun v2 => v2 c96)))) c119 | exact nw (fun y => y.elim c54 (fun y => c65 y.1)) c119
              · refine VW.aload_n (pc' := 123) d_Model_readsAll_122 rfl rfl ?_
                refine VW.iload_n (pc' := 124) d_Model_readsAll_123 rfl rfl ?_
                refine VW.aload_n (pc' := 125) d_Model_readsAll_124 rfl rfl ?_
                refine VW.gP (ci := 11) (T := T11) (N := 94) (k := 57) (k' := 57) (pc' := 128) d_Model_readsAll_125 rfl lk_Model_147 in11 rfl rfl rfl rfl (hM.k rfl) (hM.p (r := some 257) 57 rfl rfl) ?_
                refine VW.iload (pc' := 130) d_Model_readsAll_128 rfl rfl ?_
                refine VW.ild (pc' := 131) d_Model_readsAll_130 rfl (hM.k rfl) (by omega) (by omega) (rfl) ?_
                refine VW.aload_n (pc' := 132) d_Model_readsAll_131 rfl rfl ?_
                refine VW.gP (ci := 11) (T := T11) (N := 94) (k := 59) (k' := 59) (pc' := 135) d_Model_readsAll_132 rfl lk_Model_153 in11 rfl rfl rfl rfl (hM.k rfl) (hM.p (r := some 259) 59 rfl rfl) ?_
                refine VW.iload (pc' := 137) d_Model_readsAll_135 rfl rfl ?_
                refine VW.ild (pc' := 138) d_Model_readsAll_137 rfl (hM.k rfl) (by omega) (by omega) (rfl) ?_
                refine VW.cV (ci := 11) (T := T11) (N := 94) (pc' := 141) d_Model_readsAll_138 rfl mv_Model_readsKey lk_Model_308 rfl (hM.k rfl) rfl rfl rfl (Nat.le_refl _) (Nat.le_refl _) (sp_Model_readsKey hM hbS hi hA2 (by omega)) rfl rfl ?_
                refine VW.goto (pc' := 162) d_Model_readsAll_141 rfl ?_
                refine VW.iinc (pc' := 165) d_Model_readsAll_162 rfl rfl rfl (by omega) ?_
                refine VW.goto (pc' := 18) d_Model_readsAll_165 rfl ?_
                refine VW.pick [0, 1, 2, 3, 4] ?_
                first | (exfalso; omega) | exact nk (fun y => y.elim c54 (fun y => y.2.elim (fun v => by omega) (fun v => v.elim (fun v2 => v2 c86) (fun v2 => v2 c96)))) c119 | exact nw (fun y => y.elim c54 (fun y => c65 y.1)) c119
          · refine VW.aload_n (pc' := 47) d_Model_readsAll_46 rfl rfl ?_
            refine VW.gP (ci := 11) (T := T11) (N := 94) (k := 56) (k' := 56) (pc' := 50) d_Model_readsAll_47 rfl lk_Model_144 in11 rfl rfl rfl rfl (hM.k rfl) (hM.p (r := some 256) 56 rfl rfl) ?_
            refine VW.iload (pc' := 52) d_Model_readsAll_50 rfl rfl ?_
            refine VW.ild (pc' := 53) d_Model_readsAll_52 rfl (hM.k rfl) (by omega) (by omega) (rfl) ?_
            refine VW.iconst (pc' := 54) d_Model_readsAll_53 rfl (by decide) ?_
            refine VW.icmp_eq (tgt := 99) (pc' := 57) d_Model_readsAll_54 rfl rfl (fun c54 => ?_) (fun c54 => ?_)
            · refine VW.iinc (pc' := 102) d_Model_readsAll_99 rfl rfl rfl (by omega) ?_
              refine VW.goto (pc' := 40) d_Model_readsAll_102 rfl ?_
              refine VW.nrm ?_
              first | exact skip (Or.inl c54) | exact skip (Or.inr ⟨c65, Or.inl c75⟩) | exact skip (Or.inr ⟨c65, Or.inr (Or.inl c86)⟩) | exact skip (Or.inr ⟨c65, Or.inr (Or.inr c96)⟩)
            · refine VW.aload_n (pc' := 58) d_Model_readsAll_57 rfl rfl ?_
              refine VW.gP (ci := 11) (T := T11) (N := 94) (k := 56) (k' := 56) (pc' := 61) d_Model_readsAll_58 rfl lk_Model_144 in11 rfl rfl rfl rfl (hM.k rfl) (hM.p (r := some 256) 56 rfl rfl) ?_
              refine VW.iload (pc' := 63) d_Model_readsAll_61 rfl rfl ?_
              refine VW.ild (pc' := 64) d_Model_readsAll_63 rfl (hM.k rfl) (by omega) (by omega) (rfl) ?_
              refine VW.iconst (pc' := 65) d_Model_readsAll_64 rfl (by decide) ?_
              refine VW.icmp_ne (tgt := 105) (pc' := 68) d_Model_readsAll_65 rfl rfl (fun c65 => ?_) (fun c65 => ?_)
              · refine VW.iload (pc' := 107) d_Model_readsAll_105 rfl rfl ?_
                refine VW.iload_n (pc' := 108) d_Model_readsAll_107 rfl rfl ?_
                refine VW.icmp_ge (tgt := 144) (pc' := 111) d_Model_readsAll_108 rfl rfl (fun c108 => ?_) (fun c108 => ?_)
                · refine VW.aload_n (pc' := 145) d_Model_readsAll_144 rfl rfl ?_
                  refine VW.gP (ci := 11) (T := T11) (N := 94) (k := 36) (k' := 36) (pc' := 148) d_Model_readsAll_145 rfl lk_Model_108 in11 rfl rfl rfl rfl (hM.k rfl) (hM.p (r := some 236) 36 rfl rfl) ?_
                  refine VW.bipush (pc' := 150) d_Model_readsAll_148 rfl (by decide) ?_
                  refine VW.iload_n (pc' := 151) d_Model_readsAll_150 rfl rfl ?_
                  refine VW.imul (pc' := 152) d_Model_readsAll_151 rfl (by omega) ?_
                  refine VW.aload_n (pc' := 153) d_Model_readsAll_152 rfl rfl ?_
                  refine VW.gP (ci := 11) (T := T11) (N := 94) (k := 57) (k' := 57) (pc' := 156) d_Model_readsAll_153 rfl lk_Model_147 in11 rfl rfl rfl rfl (hM.k rfl) (hM.p (r := some 257) 57 rfl rfl) ?_
                  refine VW.iload (pc' := 158) d_Model_readsAll_156 rfl rfl ?_
                  refine VW.ild (pc' := 159) d_Model_readsAll_158 rfl (hM.k rfl) (by omega) (by omega) (rfl) ?_
                  refine VW.iadd (pc' := 160) d_Model_readsAll_159 rfl (by omega) ?_
                  refine VW.iconst (pc' := 161) d_Model_readsAll_160 rfl (by decide) ?_
                  refine VW.zast (pc' := 162) d_Model_readsAll_161 rfl (hM.k rfl) (by omega) (by omega) (by omega) ?_
                  refine VW.iinc (pc' := 165) d_Model_readsAll_162 rfl rfl rfl (by omega) ?_
                  refine VW.goto (pc' := 18) d_Model_readsAll_165 rfl ?_
                  refine VW.pick [0, 1, 2, 3, 4] ?_
                  first | (exfalso; omega) | exact nk (fun y => y.elim c54 (fun y => y.2.elim (fun v => by omega) (fun v => v.elim (fun v2 => v2 c86) (fun v2 => v2 c96)))) c119 | exact nw (fun y => y.elim c54 (fun y => c65 y.1)) c119
                · refine VW.aload_n (pc' := 112) d_Model_readsAll_111 rfl rfl ?_
                  refine VW.gP (ci := 11) (T := T11) (N := 94) (k := 56) (k' := 56) (pc' := 115) d_Model_readsAll_112 rfl lk_Model_144 in11 rfl rfl rfl rfl (hM.k rfl) (hM.p (r := some 256) 56 rfl rfl) ?_
                  refine VW.iload (pc' := 117) d_Model_readsAll_115 rfl rfl ?_
                  refine VW.ild (pc' := 118) d_Model_readsAll_117 rfl (hM.k rfl) (by omega) (by omega) (rfl) ?_
                  refine VW.iconst (pc' := 119) d_Model_readsAll_118 rfl (by decide) ?_
                  refine VW.icmp_ne (tgt := 144) (pc' := 122) d_Model_readsAll_119 rfl rfl (fun c119 => ?_) (fun c119 => ?_)
                  · refine VW.aload_n (pc' := 145) d_Model_readsAll_144 rfl rfl ?_
                    refine VW.gP (ci := 11) (T := T11) (N := 94) (k := 36) (k' := 36) (pc' := 148) d_Model_readsAll_145 rfl lk_Model_108 in11 rfl rfl rfl rfl (hM.k rfl) (hM.p (r := some 236) 36 rfl rfl) ?_
                    refine VW.bipush (pc' := 150) d_Model_readsAll_148 rfl (by decide) ?_
                    refine VW.iload_n (pc' := 151) d_Model_readsAll_150 rfl rfl ?_
                    refine VW.imul (pc' := 152) d_Model_readsAll_151 rfl (by omega) ?_
                    refine VW.aload_n (pc' := 153) d_Model_readsAll_152 rfl rfl ?_
                    refine VW.gP (ci := 11) (T := T11) (N := 94) (k := 57) (k' := 57) (pc' := 156) d_Model_readsAll_153 rfl lk_Model_147 in11 rfl rfl rfl rfl (hM.k rfl) (hM.p (r := some 257) 57 rfl rfl) ?_
                    refine VW.iload (pc' := 158) d_Model_readsAll_156 rfl rfl ?_
                    refine VW.ild (pc' := 159) d_Model_readsAll_158 rfl (hM.k rfl) (by omega) (by omega) (rfl) ?_
                    refine VW.iadd (pc' := 160) d_Model_readsAll_159 rfl (by omega) ?_
                    refine VW.iconst (pc' := 161) d_Model_readsAll_160 rfl (by decide) ?_
                    refine VW.zast (pc' := 162) d_Model_readsAll_161 rfl (hM.k rfl) (by omega) (by omega) (by omega) ?_
                    refine VW.iinc (pc' := 165) d_Model_readsAll_162 rfl rfl rfl (by omega) ?_
                    refine VW.goto (pc' := 18) d_Model_readsAll_165 rfl ?_
                    refine VW.pick [0, 1, 2, 3, 4] ?_
                    first | (exfalso; omega) | exact nk (fun y => y.elim c54 (fun y => y.2.elim (fun v => by omega) (fun v => v.elim (fun v2 => v2 c86) (fun v2 => v2 c96)))) c119 | exact nw (fun y => y.elim c54 (fun y => c65 y.1)) c119
                  · refine VW.aload_n (pc' := 123) d_Model_readsAll_122 rfl rfl ?_
                    refine VW.iload_n (pc' := 124) d_Model_readsAll_123 rfl rfl ?_
                    refine VW.aload_n (pc' := 125) d_Model_readsAll_124 rfl rfl ?_
                    refine VW.gP (ci := 11) (T := T11) (N := 94) (k := 57) (k' := 57) (pc' := 128) d_Model_readsAll_125 rfl lk_Model_147 in11 rfl rfl rfl rfl (hM.k rfl) (hM.p (r := some 257) 57 rfl rfl) ?_
                    refine VW.iload (pc' := 130) d_Model_readsAll_128 rfl rfl ?_
                    refine VW.ild (pc' := 131) d_Model_readsAll_130 rfl (hM.k rfl) (by omega) (by omega) (rfl) ?_
                    refine VW.aload_n (pc' := 132) d_Model_readsAll_131 rfl rfl ?_
                    refine VW.gP (ci := 11) (T := T11) (N := 94) (k := 59) (k' := 59) (pc' := 135) d_Model_readsAll_132 rfl lk_Model_153 in11 rfl rfl rfl rfl (hM.k rfl) (hM.p (r := some 259) 59 rfl rfl) ?_
                    refine VW.iload (pc' := 137) d_Model_readsAll_135 rfl rfl ?_
                    refine VW.ild (pc' := 138) d_Model_readsAll_137 rfl (hM.k rfl) (by omega) (by omega) (rfl) ?_
                    refine VW.cV (ci := 11) (T := T11) (N := 94) (pc' := 141) d_Model_readsAll_138 rfl mv_Model_readsKey lk_Model_308 rfl (hM.k rfl) rfl rfl rfl (Nat.le_refl _) (Nat.le_refl _) (sp_Model_readsKey hM hbS hi hA2 (by omega)) rfl rfl ?_
                    refine VW.goto (pc' := 162) d_Model_readsAll_141 rfl ?_
                    refine VW.iinc (pc' := 165) d_Model_readsAll_162 rfl rfl rfl (by omega) ?_
                    refine VW.goto (pc' := 18) d_Model_readsAll_165 rfl ?_
                    refine VW.pick [0, 1, 2, 3, 4] ?_
                    first | (exfalso; omega) | exact nk (fun y => y.elim c54 (fun y => y.2.elim (fun v => by omega) (fun v => v.elim (fun v2 => v2 c86) (fun v2 => v2 c96)))) c119 | exact nw (fun y => y.elim c54 (fun y => c65 y.1)) c119
              · refine VW.aload_n (pc' := 69) d_Model_readsAll_68 rfl rfl ?_
                refine VW.gP (ci := 11) (T := T11) (N := 94) (k := 57) (k' := 57) (pc' := 72) d_Model_readsAll_69 rfl lk_Model_147 in11 rfl rfl rfl rfl (hM.k rfl) (hM.p (r := some 257) 57 rfl rfl) ?_
                refine VW.iload (pc' := 74) d_Model_readsAll_72 rfl rfl ?_
                refine VW.ild (pc' := 75) d_Model_readsAll_74 rfl (hM.k rfl) (by omega) (by omega) (rfl) ?_
                refine VW.if_gt (tgt := 99) (pc' := 78) d_Model_readsAll_75 rfl rfl (fun c75 => ?_) (fun c75 => ?_)
                · refine VW.iinc (pc' := 102) d_Model_readsAll_99 rfl rfl rfl (by omega) ?_
                  refine VW.goto (pc' := 40) d_Model_readsAll_102 rfl ?_
                  refine VW.nrm ?_
                  first | exact skip (Or.inl c54) | exact skip (Or.inr ⟨c65, Or.inl c75⟩) | exact skip (Or.inr ⟨c65, Or.inr (Or.inl c86)⟩) | exact skip (Or.inr ⟨c65, Or.inr (Or.inr c96)⟩)
                · refine VW.aload_n (pc' := 79) d_Model_readsAll_78 rfl rfl ?_
                  refine VW.gP (ci := 11) (T := T11) (N := 94) (k := 58) (k' := 58) (pc' := 82) d_Model_readsAll_79 rfl lk_Model_150 in11 rfl rfl rfl rfl (hM.k rfl) (hM.p (r := some 258) 58 rfl rfl) ?_
                  refine VW.iload (pc' := 84) d_Model_readsAll_82 rfl rfl ?_
                  refine VW.ild (pc' := 85) d_Model_readsAll_84 rfl (hM.k rfl) (by omega) (by omega) (rfl) ?_
                  refine VW.iconst (pc' := 86) d_Model_readsAll_85 rfl (by decide) ?_
                  refine VW.icmp_ne (tgt := 99) (pc' := 89) d_Model_readsAll_86 rfl rfl (fun c86 => ?_) (fun c86 => ?_)
                  · refine VW.iinc (pc' := 102) d_Model_readsAll_99 rfl rfl rfl (by omega) ?_
                    refine VW.goto (pc' := 40) d_Model_readsAll_102 rfl ?_
                    refine VW.nrm ?_
                    first | exact skip (Or.inl c54) | exact skip (Or.inr ⟨c65, Or.inl c75⟩) | exact skip (Or.inr ⟨c65, Or.inr (Or.inl c86)⟩) | exact skip (Or.inr ⟨c65, Or.inr (Or.inr c96)⟩)
                  · refine VW.aload_n (pc' := 90) d_Model_readsAll_89 rfl rfl ?_
                    refine VW.gP (ci := 11) (T := T11) (N := 94) (k := 60) (k' := 60) (pc' := 93) d_Model_readsAll_90 rfl lk_Model_156 in11 rfl rfl rfl rfl (hM.k rfl) (hM.p (r := some 260) 60 rfl rfl) ?_
                    refine VW.iload (pc' := 95) d_Model_readsAll_93 rfl rfl ?_
                    refine VW.zld (pc' := 96) d_Model_readsAll_95 rfl (hM.k rfl) (by omega) (by omega) (rfl) ?_
                    refine VW.if_eq (tgt := 105) (pc' := 99) d_Model_readsAll_96 rfl rfl (fun c96 => ?_) (fun c96 => ?_)
                    · try have e96 := bIe c96
                      refine VW.iload (pc' := 107) d_Model_readsAll_105 rfl rfl ?_
                      refine VW.iload_n (pc' := 108) d_Model_readsAll_107 rfl rfl ?_
                      refine VW.icmp_ge (tgt := 144) (pc' := 111) d_Model_readsAll_108 rfl rfl (fun c108 => ?_) (fun c108 => ?_)
                      · refine VW.aload_n (pc' := 145) d_Model_readsAll_144 rfl rfl ?_
                        refine VW.gP (ci := 11) (T := T11) (N := 94) (k := 36) (k' := 36) (pc' := 148) d_Model_readsAll_145 rfl lk_Model_108 in11 rfl rfl rfl rfl (hM.k rfl) (hM.p (r := some 236) 36 rfl rfl) ?_
                        refine VW.bipush (pc' := 150) d_Model_readsAll_148 rfl (by decide) ?_
                        refine VW.iload_n (pc' := 151) d_Model_readsAll_150 rfl rfl ?_
                        refine VW.imul (pc' := 152) d_Model_readsAll_151 rfl (by omega) ?_
                        refine VW.aload_n (pc' := 153) d_Model_readsAll_152 rfl rfl ?_
                        refine VW.gP (ci := 11) (T := T11) (N := 94) (k := 57) (k' := 57) (pc' := 156) d_Model_readsAll_153 rfl lk_Model_147 in11 rfl rfl rfl rfl (hM.k rfl) (hM.p (r := some 257) 57 rfl rfl) ?_
                        refine VW.iload (pc' := 158) d_Model_readsAll_156 rfl rfl ?_
                        refine VW.ild (pc' := 159) d_Model_readsAll_158 rfl (hM.k rfl) (by omega) (by omega) (rfl) ?_
                        refine VW.iadd (pc' := 160) d_Model_readsAll_159 rfl (by omega) ?_
                        refine VW.iconst (pc' := 161) d_Model_readsAll_160 rfl (by decide) ?_
                        refine VW.zast (pc' := 162) d_Model_readsAll_161 rfl (hM.k rfl) (by omega) (by omega) (by omega) ?_
                        refine VW.iinc (pc' := 165) d_Model_readsAll_162 rfl rfl rfl (by omega) ?_
                        refine VW.goto (pc' := 18) d_Model_readsAll_165 rfl ?_
                        refine VW.pick [0, 1, 2, 3, 4] ?_
                        first | (exfalso; omega) | exact nk (fun y => y.elim c54 (fun y => y.2.elim (fun v => by omega) (fun v => v.elim (fun v2 => v2 c86) (fun v2 => v2 c96)))) c119 | exact nw (fun y => y.elim c54 (fun y => c65 y.1)) c119
                      · refine VW.aload_n (pc' := 112) d_Model_readsAll_111 rfl rfl ?_
                        refine VW.gP (ci := 11) (T := T11) (N := 94) (k := 56) (k' := 56) (pc' := 115) d_Model_readsAll_112 rfl lk_Model_144 in11 rfl rfl rfl rfl (hM.k rfl) (hM.p (r := some 256) 56 rfl rfl) ?_
                        refine VW.iload (pc' := 117) d_Model_readsAll_115 rfl rfl ?_
                        refine VW.ild (pc' := 118) d_Model_readsAll_117 rfl (hM.k rfl) (by omega) (by omega) (rfl) ?_
                        refine VW.iconst (pc' := 119) d_Model_readsAll_118 rfl (by decide) ?_
                        refine VW.icmp_ne (tgt := 144) (pc' := 122) d_Model_readsAll_119 rfl rfl (fun c119 => ?_) (fun c119 => ?_)
                        · refine VW.aload_n (pc' := 145) d_Model_readsAll_144 rfl rfl ?_
                          refine VW.gP (ci := 11) (T := T11) (N := 94) (k := 36) (k' := 36) (pc' := 148) d_Model_readsAll_145 rfl lk_Model_108 in11 rfl rfl rfl rfl (hM.k rfl) (hM.p (r := some 236) 36 rfl rfl) ?_
                          refine VW.bipush (pc' := 150) d_Model_readsAll_148 rfl (by decide) ?_
                          refine VW.iload_n (pc' := 151) d_Model_readsAll_150 rfl rfl ?_
                          refine VW.imul (pc' := 152) d_Model_readsAll_151 rfl (by omega) ?_
                          refine VW.aload_n (pc' := 153) d_Model_readsAll_152 rfl rfl ?_
                          refine VW.gP (ci := 11) (T := T11) (N := 94) (k := 57) (k' := 57) (pc' := 156) d_Model_readsAll_153 rfl lk_Model_147 in11 rfl rfl rfl rfl (hM.k rfl) (hM.p (r := some 257) 57 rfl rfl) ?_
                          refine VW.iload (pc' := 158) d_Model_readsAll_156 rfl rfl ?_
                          refine VW.ild (pc' := 159) d_Model_readsAll_158 rfl (hM.k rfl) (by omega) (by omega) (rfl) ?_
                          refine VW.iadd (pc' := 160) d_Model_readsAll_159 rfl (by omega) ?_
                          refine VW.iconst (pc' := 161) d_Model_readsAll_160 rfl (by decide) ?_
                          refine VW.zast (pc' := 162) d_Model_readsAll_161 rfl (hM.k rfl) (by omega) (by omega) (by omega) ?_
                          refine VW.iinc (pc' := 165) d_Model_readsAll_162 rfl rfl rfl (by omega) ?_
                          refine VW.goto (pc' := 18) d_Model_readsAll_165 rfl ?_
                          refine VW.pick [0, 1, 2, 3, 4] ?_
                          first | (exfalso; omega) | exact nk (fun y => y.elim c54 (fun y => y.2.elim (fun v => by omega) (fun v => v.elim (fun v2 => v2 c86) (fun v2 => v2 c96)))) c119 | exact nw (fun y => y.elim c54 (fun y => c65 y.1)) c119
                        · refine VW.aload_n (pc' := 123) d_Model_readsAll_122 rfl rfl ?_
                          refine VW.iload_n (pc' := 124) d_Model_readsAll_123 rfl rfl ?_
                          refine VW.aload_n (pc' := 125) d_Model_readsAll_124 rfl rfl ?_
                          refine VW.gP (ci := 11) (T := T11) (N := 94) (k := 57) (k' := 57) (pc' := 128) d_Model_readsAll_125 rfl lk_Model_147 in11 rfl rfl rfl rfl (hM.k rfl) (hM.p (r := some 257) 57 rfl rfl) ?_
                          refine VW.iload (pc' := 130) d_Model_readsAll_128 rfl rfl ?_
                          refine VW.ild (pc' := 131) d_Model_readsAll_130 rfl (hM.k rfl) (by omega) (by omega) (rfl) ?_
                          refine VW.aload_n (pc' := 132) d_Model_readsAll_131 rfl rfl ?_
                          refine VW.gP (ci := 11) (T := T11) (N := 94) (k := 59) (k' := 59) (pc' := 135) d_Model_readsAll_132 rfl lk_Model_153 in11 rfl rfl rfl rfl (hM.k rfl) (hM.p (r := some 259) 59 rfl rfl) ?_
                          refine VW.iload (pc' := 137) d_Model_readsAll_135 rfl rfl ?_
                          refine VW.ild (pc' := 138) d_Model_readsAll_137 rfl (hM.k rfl) (by omega) (by omega) (rfl) ?_
                          refine VW.cV (ci := 11) (T := T11) (N := 94) (pc' := 141) d_Model_readsAll_138 rfl mv_Model_readsKey lk_Model_308 rfl (hM.k rfl) rfl rfl rfl (Nat.le_refl _) (Nat.le_refl _) (sp_Model_readsKey hM hbS hi hA2 (by omega)) rfl rfl ?_
                          refine VW.goto (pc' := 162) d_Model_readsAll_141 rfl ?_
                          refine VW.iinc (pc' := 165) d_Model_readsAll_162 rfl rfl rfl (by omega) ?_
                          refine VW.goto (pc' := 18) d_Model_readsAll_165 rfl ?_
                          refine VW.pick [0, 1, 2, 3, 4] ?_
                          first | (exfalso; omega) | exact nk (fun y => y.elim c54 (fun y => y.2.elim (fun v => by omega) (fun v => v.elim (fun v2 => v2 c86) (fun v2 => v2 c96)))) c119 | exact nw (fun y => y.elim c54 (fun y => c65 y.1)) c119
                    · try have e96 := bIn c96
                      refine VW.iinc (pc' := 102) d_Model_readsAll_99 rfl rfl rfl (by omega) ?_
                      refine VW.goto (pc' := 40) d_Model_readsAll_102 rfl ?_
                      refine VW.nrm ?_
                      first | exact skip (Or.inl c54) | exact skip (Or.inr ⟨c65, Or.inl c75⟩) | exact skip (Or.inr ⟨c65, Or.inr (Or.inl c86)⟩) | exact skip (Or.inr ⟨c65, Or.inr (Or.inr c96)⟩)
      have s0 := fun z => srch z (n - k - 1) 0 (by omega) (by rw [show (((0 : Nat) : Int)) = 0 from rfl, Int.add_zero])
      rw [show (((0 : Nat) : Int)) = 0 from rfl, Int.add_zero] at s0
      clear srch yes hA1
      refine VW.iload (pc' := 20) d_Model_readsAll_18 rfl rfl ?_
      refine VW.iload_n (pc' := 21) d_Model_readsAll_20 rfl rfl ?_
      refine VW.icmp_ge (tgt := 168) (pc' := 24) d_Model_readsAll_21 rfl rfl (fun c21 => ?_) (fun c21 => ?_)
      · exfalso; omega
      · refine VW.aload_n (pc' := 25) d_Model_readsAll_24 rfl rfl ?_
        refine VW.gP (ci := 11) (T := T11) (N := 94) (k := 56) (k' := 56) (pc' := 28) d_Model_readsAll_25 rfl lk_Model_144 in11 rfl rfl rfl rfl (hM.k rfl) (hM.p (r := some 256) 56 rfl rfl) ?_
        refine VW.iload (pc' := 30) d_Model_readsAll_28 rfl rfl ?_
        refine VW.ild (pc' := 31) d_Model_readsAll_30 rfl (hM.k rfl) (by omega) (by omega) (rfl) ?_
        refine VW.if_ne (tgt := 162) (pc' := 34) d_Model_readsAll_31 rfl rfl (fun c31 => ?_) (fun c31 => ?_)
        · try have e31 := bIn c31
          refine VW.iinc (pc' := 165) d_Model_readsAll_162 rfl rfl rfl (by omega) ?_
          refine VW.goto (pc' := 18) d_Model_readsAll_165 rfl ?_
          refine VW.nrm ?_
          exact no c31
        · try have e31 := bIe c31
          refine VW.iload (pc' := 36) d_Model_readsAll_34 rfl rfl ?_
          refine VW.iconst (pc' := 37) d_Model_readsAll_36 rfl (by decide) ?_
          refine VW.iadd (pc' := 38) d_Model_readsAll_37 rfl (by omega) ?_
          refine VW.istore (pc' := 40) d_Model_readsAll_38 rfl rfl ?_
          refine VW.nrm ?_
          exact s0 c31
  have l := loop n 0 (by omega)
  rw [show (((0 : Nat) : Int)) = 0 from rfl, Int.add_zero] at l
  clear loop
  refine VW.iload_n (pc' := 1) d_Model_readsAll_0 rfl rfl ?_
  refine VW.cS (pc' := 4) d_Model_readsAll_1 rfl ms_Model_base lk_Model_431 rfl rfl rfl (Nat.le_refl _) (Nat.le_refl _) (sp_Model_base (by omega)) rfl rfl ?_
  refine VW.aload_n (pc' := 5) d_Model_readsAll_4 rfl rfl ?_
  refine VW.gP (ci := 11) (T := T11) (N := 94) (k := 62) (k' := 62) (pc' := 8) d_Model_readsAll_5 rfl lk_Model_159 in11 rfl rfl rfl rfl (hM.k rfl) (hM.p (r := some 262) 62 rfl rfl) ?_
  refine VW.iload_n (pc' := 9) d_Model_readsAll_8 rfl rfl ?_
  refine VW.ild (pc' := 10) d_Model_readsAll_9 rfl (hM.k rfl) (by omega) (by omega) (by first | exact hz | rfl) ?_
  refine VW.iadd (pc' := 11) d_Model_readsAll_10 rfl (by omega) ?_
  refine VW.istore_n (pc' := 12) d_Model_readsAll_11 rfl rfl ?_
  refine VW.iload_n (pc' := 13) d_Model_readsAll_12 rfl rfl ?_
  refine VW.cS (pc' := 16) d_Model_readsAll_13 rfl ms_Model_base lk_Model_431 rfl rfl rfl (Nat.le_refl _) (Nat.le_refl _) (sp_Model_base (by omega)) rfl rfl ?_
  refine VW.istore (pc' := 18) d_Model_readsAll_16 rfl rfl ?_
  refine VW.nrm ?_
  exact l
noncomputable def cd_Model_at (I : IT) (a c : Int) : Int := if bI (0 ≤ a ∧ a ≤ I 100 77 - 1) ≠ 0 ∧ bI (0 ≤ c ∧ c ≤ I 100 78 - 1) ≠ 0 then 0 else 1
noncomputable def f_Model_at  (a c : Int) (S : IT) : IT × Int := (S, S 276 (S 100 78 * a + c))
noncomputable def r_Model_at  (I : IT) (a c : Int) : IT × Int := callR (cd_Model_at I a c) I (f_Model_at  a c)
theorem sp_Model_at {a c : Int} (hM : MW K P) (h77 : 0 ≤ I 100 77 ∧ I 100 77 ≤ 512) (h78 : 0 ≤ I 100 78 ∧ I 100 78 ≤ 10) : Sp m_Model_at false (rmv 1 22) (ex K P J (r_Model_at  I a c).1 (.inl (some (vI (r_Model_at  I a c).2)))) K P J I [vR (some 100), vI a, vI c] := by
  refine Sp.ofV (by decide) (Or.inr rfl) rfl ?_
  have rest : ∀ p : Int, ∀ S : IT, (S = up2 I 100 93 0) → (cd_Model_at I a c = 0) → ((bI (0 ≤ a ∧ a ≤ I 100 77 - 1) ≠ 0) ∧ (bI (0 ≤ c ∧ c ≤ I 100 78 - 1) ≠ 0)) → VW m_Model_at false (rmv 1 22) (ex K P J (f_Model_at  a c S).1 (.inl (some (vI (f_Model_at  a c S).2)))) K P J S 0 0 54 [(0, vR (some 100)), (1, vI a), (2, vI c), (3, vI p)] [] := by
    intro p S eS hcd q
    have u : ∀ (o : Nat) (k : Int), (o ≠ 100 ∨ k ≠ 93) → S o k = I o k := fun o k h => by rw [eS]; exact if_neg (fun z => h.elim (fun y => y z.1) (fun y => y z.2))
    have q1 := bIn q.1
    have q2 := bIn q.2
    have a77 : 0 ≤ S 100 77 ∧ S 100 77 ≤ 512 := by rw [u 100 77 (by decide)]; exact h77
    have a78 : 0 ≤ S 100 78 ∧ S 100 78 ≤ 10 ∧ c < S 100 78 := by rw [u 100 78 (by decide)]; omega
    have m0 := mulNN (w := S 100 78) (k := a) (by omega) (by omega)
    have m1 := mulUp (w := S 100 78) (k := a) (W := 10) (n := 512) (by omega) (by omega) (by omega) (by omega)
    clear u q hcd eS
    refine VW.aload_n (pc' := 55) d_Model_at_54 rfl rfl ?_
    refine VW.gP (ci := 11) (T := T11) (N := 94) (k := 76) (k' := 76) (pc' := 58) d_Model_at_55 rfl lk_Model_191 in11 rfl rfl rfl rfl (hM.k rfl) (hM.p (r := some 276) 76 rfl rfl) ?_
    refine VW.aload_n (pc' := 59) d_Model_at_58 rfl rfl ?_
    refine VW.gI (ci := 11) (T := T11) (N := 94) (k := 78) (k' := 78) (pc' := 62) d_Model_at_59 rfl lk_Model_498 in11 rfl rfl rfl rfl (hM.k rfl) (by first | assumption | (simp [up2] <;> rfl) | rfl) ?_
    refine VW.iload_n (pc' := 63) d_Model_at_62 rfl rfl ?_
    refine VW.imul (pc' := 64) d_Model_at_63 rfl (by omega) ?_
    refine VW.iload_n (pc' := 65) d_Model_at_64 rfl rfl ?_
    refine VW.iadd (pc' := 66) d_Model_at_65 rfl (by omega) ?_
    refine VW.ild (pc' := 67) d_Model_at_66 rfl (hM.k rfl) (by omega) (by omega) (by first | assumption | (simp [up2] <;> rfl) | rfl) ?_
    exact VW.iret d_Model_at_67 rfl rfl (Nat.zero_le _) (Nat.zero_le _) ex_rf
  have after : ∀ p : Int, ∀ z : Int, z = cd_Model_at I a c → VW m_Model_at false (rmv 1 22) (ex K P J (r_Model_at  I a c).1 (.inl (some (vI (r_Model_at  I a c).2)))) K P J (up2 I 100 93 z) 0 0 47 [(0, vR (some 100)), (1, vI a), (2, vI c), (3, vI p)] [vI (bI (0 < z))] := by
    intro p z hz
    unfold r_Model_at
    rw [← hz]
    have q : ¬ 0 < z → (z = 0 ∧ ((bI (0 ≤ a ∧ a ≤ I 100 77 - 1) ≠ 0) ∧ (bI (0 ≤ c ∧ c ≤ I 100 78 - 1) ≠ 0))) := by
      intro h0
      have hz' := hz
      unfold cd_Model_at at hz'
      (repeat' split at hz') <;> first | (exfalso; omega) | (refine ⟨by omega, ?_⟩; first | trivial | omega)
    refine VW.if_eq (tgt := 54) (pc' := 50) d_Model_at_47 rfl rfl (fun c47 => ?_) (fun c47 => ?_)
    · try have e47 := bIe c47
      refine VW.nrm ?_
      rw [callR_0 e47]
      have qq := q e47
      have hz2 := hz.symm.trans qq.1
      rw [qq.1]
      exact rest _ _ rfl hz2 qq.2
    · try have e47 := bIn c47
      refine VW.iconst (pc' := 51) d_Model_at_50 rfl (by decide) ?_
      refine VW.goto (pc' := 67) d_Model_at_51 rfl ?_
      exact VW.iret d_Model_at_67 rfl rfl (Nat.zero_le _) (Nat.zero_le _) (ex_r (callR_1 e47))
  refine VW.iload_n (pc' := 1) d_Model_at_0 rfl rfl ?_
  refine VW.iconst (pc' := 2) d_Model_at_1 rfl (by decide) ?_
  refine VW.aload_n (pc' := 3) d_Model_at_2 rfl rfl ?_
  refine VW.gI (ci := 11) (T := T11) (N := 94) (k := 77) (k' := 77) (pc' := 6) d_Model_at_3 rfl lk_Model_495 in11 rfl rfl rfl rfl (hM.k rfl) (by first | assumption | (simp [up2] <;> rfl) | rfl) ?_
  refine VW.iconst (pc' := 7) d_Model_at_6 rfl (by decide) ?_
  refine VW.isub (pc' := 8) d_Model_at_7 rfl (by omega) ?_
  refine VW.cS (pc' := 11) d_Model_at_8 rfl ms_Model_isIn lk_Model_235 rfl rfl rfl (Nat.le_refl _) (Nat.le_refl _) (sp_Model_isIn) rfl rfl ?_
  refine VW.if_eq (tgt := 32) (pc' := 14) d_Model_at_11 rfl rfl (fun c11 => ?_) (fun c11 => ?_)
  · try have e11 := bIe c11
    refine VW.iconst (pc' := 33) d_Model_at_32 rfl (by decide) ?_
    refine VW.istore_n (pc' := 34) d_Model_at_33 rfl rfl ?_
    refine VW.aload_n (pc' := 35) d_Model_at_34 rfl rfl ?_
    refine VW.iload_n (pc' := 36) d_Model_at_35 rfl rfl ?_
    refine VW.if_eq (tgt := 43) (pc' := 39) d_Model_at_36 rfl rfl (fun _ => ?_) (fun c36 => absurd c36 (by decide))
    refine VW.iconst (pc' := 44) d_Model_at_43 rfl (by decide) ?_
    refine VW.cV (ci := 11) (T := T11) (N := 94) (pc' := 47) d_Model_at_44 rfl mv_Model_fails lk_Model_254 rfl (hM.k rfl) rfl rfl rfl (Nat.le_refl _) (Nat.le_refl _) (sp_Model_fails hM) rfl rfl ?_
    refine VW.pick [0, 1, 2, 3] ?_
    exact after _ _ (by unfold cd_Model_at; (repeat' split) <;> first | rfl | (exfalso; omega))
  · try have e11 := bIn c11
    refine VW.iload_n (pc' := 15) d_Model_at_14 rfl rfl ?_
    refine VW.iconst (pc' := 16) d_Model_at_15 rfl (by decide) ?_
    refine VW.aload_n (pc' := 17) d_Model_at_16 rfl rfl ?_
    refine VW.gI (ci := 11) (T := T11) (N := 94) (k := 78) (k' := 78) (pc' := 20) d_Model_at_17 rfl lk_Model_498 in11 rfl rfl rfl rfl (hM.k rfl) (by first | assumption | (simp [up2] <;> rfl) | rfl) ?_
    refine VW.iconst (pc' := 21) d_Model_at_20 rfl (by decide) ?_
    refine VW.isub (pc' := 22) d_Model_at_21 rfl (by omega) ?_
    refine VW.cS (pc' := 25) d_Model_at_22 rfl ms_Model_isIn lk_Model_235 rfl rfl rfl (Nat.le_refl _) (Nat.le_refl _) (sp_Model_isIn) rfl rfl ?_
    refine VW.if_eq (tgt := 32) (pc' := 28) d_Model_at_25 rfl rfl (fun c25 => ?_) (fun c25 => ?_)
    · try have e25 := bIe c25
      refine VW.iconst (pc' := 33) d_Model_at_32 rfl (by decide) ?_
      refine VW.istore_n (pc' := 34) d_Model_at_33 rfl rfl ?_
      refine VW.aload_n (pc' := 35) d_Model_at_34 rfl rfl ?_
      refine VW.iload_n (pc' := 36) d_Model_at_35 rfl rfl ?_
      refine VW.if_eq (tgt := 43) (pc' := 39) d_Model_at_36 rfl rfl (fun _ => ?_) (fun c36 => absurd c36 (by decide))
      refine VW.iconst (pc' := 44) d_Model_at_43 rfl (by decide) ?_
      refine VW.cV (ci := 11) (T := T11) (N := 94) (pc' := 47) d_Model_at_44 rfl mv_Model_fails lk_Model_254 rfl (hM.k rfl) rfl rfl rfl (Nat.le_refl _) (Nat.le_refl _) (sp_Model_fails hM) rfl rfl ?_
      refine VW.pick [0, 1, 2, 3] ?_
      exact after _ _ (by unfold cd_Model_at; (repeat' split) <;> first | rfl | (exfalso; omega))
    · try have e25 := bIn c25
      refine VW.iconst (pc' := 29) d_Model_at_28 rfl (by decide) ?_
      refine VW.goto (pc' := 33) d_Model_at_29 rfl ?_
      refine VW.istore_n (pc' := 34) d_Model_at_33 rfl rfl ?_
      refine VW.aload_n (pc' := 35) d_Model_at_34 rfl rfl ?_
      refine VW.iload_n (pc' := 36) d_Model_at_35 rfl rfl ?_
      refine VW.if_eq (tgt := 43) (pc' := 39) d_Model_at_36 rfl rfl (fun c36 => absurd c36 (by decide)) (fun _ => ?_)
      refine VW.iconst (pc' := 40) d_Model_at_39 rfl (by decide) ?_
      refine VW.goto (pc' := 44) d_Model_at_40 rfl ?_
      refine VW.cV (ci := 11) (T := T11) (N := 94) (pc' := 47) d_Model_at_44 rfl mv_Model_fails lk_Model_254 rfl (hM.k rfl) rfl rfl rfl (Nat.le_refl _) (Nat.le_refl _) (sp_Model_fails hM) rfl rfl ?_
      refine VW.pick [0, 1, 2, 3] ?_
      exact after _ _ (by unfold cd_Model_at; (repeat' split) <;> first | rfl | (exfalso; omega))
end
