section
variable {K : KT} {P : PT} {J I : IT} {Q : PQ}
/-- ends with an int, of which and of the ints and longs of the heap only this is known -/
def exY (K : KT) (P : PT) (φ : Int → IT → IT → Prop) : PQ := fun r K' P' J' I' => K' = K ∧ P' = P ∧ ∃ v, r = .inl (some (vI v)) ∧ φ v J' I'
theorem exY_mk {φ : Int → IT → IT → Prop} {v : Int} (h : φ v J I) : exY K P φ (.inl (some (vI v))) K P J I := ⟨rfl, rfl, v, rfl, h⟩
theorem lc_lt {a b : Int} : ((if b < a then (1 : Int) else if a = b then 0 else -1) < 0) ↔ a < b := by
  split
  · omega
  · split <;> omega
theorem ordR_rg {m : Nat} (hm : m = 2 ∨ m = 3) (x : Int) : 0 ≤ ordR m 0 x ∧ ordR m 0 x ≤ 63 := by
  rcases hm with e | e <;> subst e
  · show 0 ≤ 0 + x % 4 * 4 ^ 1 + x / 4 % 4 * 4 ^ 0 ∧ 0 + x % 4 * 4 ^ 1 + x / 4 % 4 * 4 ^ 0 ≤ 63
    rw [show (4 : Int) ^ 1 = 4 from rfl, show (4 : Int) ^ 0 = 1 from rfl]; omega
  · show 0 ≤ 0 + x % 4 * 4 ^ 2 + x / 4 % 4 * 4 ^ 1 + x / 4 / 4 % 4 * 4 ^ 0 ∧ 0 + x % 4 * 4 ^ 2 + x / 4 % 4 * 4 ^ 1 + x / 4 / 4 % 4 * 4 ^ 0 ≤ 63
    rw [show (4 : Int) ^ 2 = 16 from rfl, show (4 : Int) ^ 1 = 4 from rfl, show (4 : Int) ^ 0 = 1 from rfl]; omega
/-- the best cost and its order, of the first k codes -/
noncomputable def bsK (J I : IT) (q : Int) (m nj : Nat) : Nat → Int × Int
  | 0 => (-1, 0)
  | k + 1 => if bI (setN (ordR m 0 k) m = 2 ^ m - 1) = 1 ∧ ((bsK J I q m nj k).1 < 0 ∨ (mCost J I q (ordR m 0 k) m nj (m - 1)).2.1 < (bsK J I q m nj k).1) then ((mCost J I q (ordR m 0 k) m nj (m - 1)).2.1, ordR m 0 k) else bsK J I q m nj k
theorem bsK_1 {q : Int} {m nj k : Nat} (h : setN (ordR m 0 k) m = 2 ^ m - 1) (h2 : (bsK J I q m nj k).1 < 0 ∨ (mCost J I q (ordR m 0 k) m nj (m - 1)).2.1 < (bsK J I q m nj k).1) : bsK J I q m nj (k + 1) = ((mCost J I q (ordR m 0 k) m nj (m - 1)).2.1, ordR m 0 k) := if_pos ⟨bI1 h, h2⟩
theorem bsK_0 {q : Int} {m nj k : Nat} (h : ¬ (setN (ordR m 0 k) m = 2 ^ m - 1 ∧ ((bsK J I q m nj k).1 < 0 ∨ (mCost J I q (ordR m 0 k) m nj (m - 1)).2.1 < (bsK J I q m nj k).1))) : bsK J I q m nj (k + 1) = bsK J I q m nj k := if_neg (fun z => h ⟨Classical.byContradiction (fun y => by rw [bI0 y] at z; exact absurd z.1 (by decide)), z.2⟩)
theorem bsK_rg {q : Int} {m nj : Nat} (hc : CoOK J I q m nj) (hm : m = 2 ∨ m = 3) : ∀ k : Nat, (-1 ≤ (bsK J I q m nj k).1 ∧ (bsK J I q m nj k).1 ≤ 6000) ∧ (0 ≤ (bsK J I q m nj k).2 ∧ (bsK J I q m nj k).2 ≤ 63) := by
  intro k
  induction k with
  | zero => exact ⟨⟨Int.le_refl _, by show (-1 : Int) ≤ 6000; decide⟩, Int.le_refl _, by show (0 : Int) ≤ 63; decide⟩
  | succ k ih =>
    have o := ordR_rg hm (k : Int)
    have c := (mCost_rg (x := ordR m 0 k) hc (m - 1) (by omega)).2.1
    by_cases h : setN (ordR m 0 k) m = 2 ^ m - 1 ∧ ((bsK J I q m nj k).1 < 0 ∨ (mCost J I q (ordR m 0 k) m nj (m - 1)).2.1 < (bsK J I q m nj k).1)
    · rw [bsK_1 h.1 h.2]
      refine ⟨⟨?_, ?_⟩, o⟩
      · show -1 ≤ (mCost J I q (ordR m 0 k) m nj (m - 1)).2.1; omega
      · show (mCost J I q (ordR m 0 k) m nj (m - 1)).2.1 ≤ 6000; omega
    · rw [bsK_0 h]; exact ih
noncomputable def bsE (J I : IT) (q : Int) (m nj : Nat) : Int × Int := bsK J I q m nj (2 ^ (2 * m))
/-- the plan is kept: its first k places -/
def mPl (S : IT) (q f : Int) : Nat → IT
  | 0 => S
  | k + 1 => up2 (mPl S q f k) 266 (4 * q + k) (digO f k)
theorem mPl_o {S : IT} {q f : Int} (k : Nat) : ∀ (o : Nat) (z : Int), o ≠ 266 → mPl S q f k o z = S o z := by
  induction k with
  | zero => intro o z h; rfl
  | succ k ih => intro o z h; exact (up2_o _ _ _ _ h).trans (ih o z h)
noncomputable def prE (J I : IT) (q : Int) (m nj : Nat) : IT := up2 (mPl (up2 (up2 (up2 I 263 q 1) 264 q (bsE J I q m nj).1) 265 q m) q (bsE J I q m nj).2 m) 100 67 (I 100 67 + 1)
theorem pr_search {q first : Int} {m nj : Nat} {φ : Int → IT → IT → Prop} (hM : MW K P) (hq : 0 ≤ q ∧ q < 20) (hm : m = 2 ∨ m = 3) (hc : CoOK J I q m nj) (h67 : 0 ≤ I 100 67 ∧ I 100 67 ≤ 100000) (hp : φ (bsE J I q m nj).1 J (prE J I q m nj)) : VW m_Model_prepare false (rmv 3 82) (exY K P φ) K P J I 0 0 68 [(0, vR (some 100)), (1, vI q), (2, vI first)] [] := by
  have h84 : I 100 84 = m := hc.1.1
  have pm : (2 : Int) ^ (2 * m) = 16 ∨ (2 : Int) ^ (2 * m) = 64 := by rcases hm with e | e <;> subst e; exact Or.inl rfl; exact Or.inr rfl
  have pmn : ((2 ^ (2 * m) : Nat) : Int) = (2 : Int) ^ (2 * m) := by simp
  have sl := ishl1 (b := 2 * (m : Int)) (by omega) (by omega)
  rw [show (2 * (m : Int)).toNat = 2 * m by omega] at sl
  have plan : ∀ (l j : Nat) (z7 : Int), j + l = m → VW m_Model_prepare false (rmv 3 82) (exY K P φ) K P J (mPl (up2 (up2 (up2 I 263 q 1) 264 q (bsE J I q m nj).1) 265 q m) q (bsE J I q m nj).2 j) 0 0 172 [(0, vR (some 100)), (1, vI q), (2, vI first), (5, vI (bsE J I q m nj).2), (6, vI (j : Int))] [] := by
    intro l
    have br := (bsK_rg hc hm (2 ^ (2 * m))).2
    induction l with
    | zero =>
      intro j z7 hj
      have ej : j = m := by omega
      rw [ej]
      have a84 : mPl (up2 (up2 (up2 I 263 q 1) 264 q (bsE J I q m nj).1) 265 q m) q (bsE J I q m nj).2 m 100 84 = m := (mPl_o m 100 84 (by decide)).trans ((up2_o _ _ _ _ (by decide)).trans ((up2_o _ _ _ _ (by decide)).trans ((up2_o _ _ _ _ (by decide)).trans h84)))
      have a67 : mPl (up2 (up2 (up2 I 263 q 1) 264 q (bsE J I q m nj).1) 265 q m) q (bsE J I q m nj).2 m 100 67 = I 100 67 := (mPl_o m 100 67 (by decide)).trans ((up2_o _ _ _ _ (by decide)).trans ((up2_o _ _ _ _ (by decide)).trans (up2_o _ _ _ _ (by decide))))
      have a264 : up2 (mPl (up2 (up2 (up2 I 263 q 1) 264 q (bsE J I q m nj).1) 265 q m) q (bsE J I q m nj).2 m) 100 67 (I 100 67 + 1) 264 q = (bsE J I q m nj).1 := (up2_o _ _ _ _ (by decide)).trans ((mPl_o m 264 q (by decide)).trans ((up2_o _ _ _ _ (by decide)).trans (up2_eq _ _ _ _)))
      have fin : φ (bsE J I q m nj).1 J (prE J I q m nj) := hp
      clear hc
      refine VW.iload (pc' := 174) d_Model_prepare_172 rfl rfl ?_
      refine VW.aload_n (pc' := 175) d_Model_prepare_174 rfl rfl ?_
      refine VW.gI (ci := 11) (T := T11) (N := 94) (k := 84) (k' := 84) (pc' := 178) d_Model_prepare_175 rfl lk_Model_510 in11 rfl rfl rfl rfl (hM.k rfl) (by first | exact a84 | exact a67 | exact a264 | rfl) ?_
      refine VW.icmp_ge (tgt := 207) (pc' := 181) d_Model_prepare_178 rfl rfl (fun c178 => ?_) (fun c178 => ?_)
      · refine VW.aload_n (pc' := 208) d_Model_prepare_207 rfl rfl ?_
        refine VW.dup (pc' := 209) d_Model_prepare_208 rfl rfl ?_
        refine VW.gI (ci := 11) (T := T11) (N := 94) (k := 67) (k' := 67) (pc' := 212) d_Model_prepare_209 rfl lk_Model_551 in11 rfl rfl rfl rfl (hM.k rfl) (by first | exact a84 | exact a67 | exact a264 | rfl) ?_
        refine VW.iconst (pc' := 213) d_Model_prepare_212 rfl (by decide) ?_
        refine VW.iadd (pc' := 214) d_Model_prepare_213 rfl (by omega) ?_
        refine VW.pI (ci := 11) (T := T11) (N := 94) (k := 67) (k' := 67) (ty := ty11) (pc' := 217) d_Model_prepare_214 rfl lk_Model_551 in11 tk11 nm11 rfl rfl rfl rfl rfl rfl (hM.k rfl) ?_
        refine VW.aload_n (pc' := 218) d_Model_prepare_217 rfl rfl ?_
        refine VW.gP (ci := 11) (T := T11) (N := 94) (k := 64) (k' := 64) (pc' := 221) d_Model_prepare_218 rfl lk_Model_165 in11 rfl rfl rfl rfl (hM.k rfl) (hM.p (r := some 264) 64 rfl rfl) ?_
        refine VW.iload_n (pc' := 222) d_Model_prepare_221 rfl rfl ?_
        refine VW.ild (pc' := 223) d_Model_prepare_222 rfl (hM.k rfl) (by omega) (by omega) (by first | exact a84 | exact a67 | exact a264 | rfl) ?_
        exact VW.iret d_Model_prepare_223 rfl rfl (Nat.zero_le _) (Nat.zero_le _) (exY_mk fin)
      · exfalso; omega
    | succ l ih =>
      intro j z7 hj
      have nx := ih (j + 1) z7 (by omega)
      have ej : ((j + 1 : Nat) : Int) = (j : Int) + 1 := by omega
      rw [ej] at nx
      have a84 : mPl (up2 (up2 (up2 I 263 q 1) 264 q (bsE J I q m nj).1) 265 q m) q (bsE J I q m nj).2 j 100 84 = m := (mPl_o j 100 84 (by decide)).trans ((up2_o _ _ _ _ (by decide)).trans ((up2_o _ _ _ _ (by decide)).trans ((up2_o _ _ _ _ (by decide)).trans h84)))
      have br2 : 0 ≤ (bsE J I q m nj).2 ∧ (bsE J I q m nj).2 ≤ 63 := br
      have d1 := digD (k := j) (x := (bsE J I q m nj).2) (by omega)
      have b1 := digB (k := j) (x := (bsE J I q m nj).2) (by omega) (by omega)
      have b2 := iand3 d1.1 d1.2
      have dg := digO_rg (bsE J I q m nj).2 j
      clear ih hc br
      refine VW.iload (pc' := 174) d_Model_prepare_172 rfl rfl ?_
      refine VW.aload_n (pc' := 175) d_Model_prepare_174 rfl rfl ?_
      refine VW.gI (ci := 11) (T := T11) (N := 94) (k := 84) (k' := 84) (pc' := 178) d_Model_prepare_175 rfl lk_Model_510 in11 rfl rfl rfl rfl (hM.k rfl) (by first | exact a84 | rfl) ?_
      refine VW.icmp_ge (tgt := 207) (pc' := 181) d_Model_prepare_178 rfl rfl (fun c178 => ?_) (fun c178 => ?_)
      · exfalso; omega
      · refine VW.aload_n (pc' := 182) d_Model_prepare_181 rfl rfl ?_
        refine VW.gP (ci := 11) (T := T11) (N := 94) (k := 66) (k' := 66) (pc' := 185) d_Model_prepare_182 rfl lk_Model_171 in11 rfl rfl rfl rfl (hM.k rfl) (hM.p (r := some 266) 66 rfl rfl) ?_
        refine VW.iconst (pc' := 186) d_Model_prepare_185 rfl (by decide) ?_
        refine VW.iload_n (pc' := 187) d_Model_prepare_186 rfl rfl ?_
        refine VW.imul (pc' := 188) d_Model_prepare_187 rfl (by omega) ?_
        refine VW.iload (pc' := 190) d_Model_prepare_188 rfl rfl ?_
        refine VW.iadd (pc' := 191) d_Model_prepare_190 rfl (by omega) ?_
        refine VW.iload (pc' := 193) d_Model_prepare_191 rfl rfl ?_
        refine VW.iconst (pc' := 194) d_Model_prepare_193 rfl (by decide) ?_
        refine VW.iload (pc' := 196) d_Model_prepare_194 rfl rfl ?_
        refine VW.imul (pc' := 197) d_Model_prepare_196 rfl (by omega) ?_
        refine VW.ishr (pc' := 198) (z := (bsE J I q m nj).2 / 2 ^ (2 * j)) d_Model_prepare_197 rfl (⟨by omega, by omega⟩) (b1) ?_
        refine VW.iconst (pc' := 199) d_Model_prepare_198 rfl (by decide) ?_
        refine VW.iand (pc' := 200) (z := digO (bsE J I q m nj).2 j) d_Model_prepare_199 rfl (⟨by omega, by omega⟩) (b2) ?_
        refine VW.iast (pc' := 201) d_Model_prepare_200 rfl (hM.k rfl) (by omega) (by omega) ?_
        refine VW.iinc (pc' := 204) d_Model_prepare_201 rfl rfl rfl (by omega) ?_
        refine VW.goto (pc' := 172) d_Model_prepare_204 rfl ?_
        refine VW.pick [0, 1, 2, 5, 6] ?_
        exact nx
  have pl := plan m 0 0 (by omega)
  have brE := bsK_rg hc hm (2 ^ (2 * m))
  have brE1 : -1 ≤ (bsE J I q m nj).1 ∧ (bsE J I q m nj).1 ≤ 6000 := brE.1
  clear plan
  have loop : ∀ (l c : Nat), c + l = 2 ^ (2 * m) → VW m_Model_prepare false (rmv 3 82) (exY K P φ) K P J I 0 0 78 [(0, vR (some 100)), (1, vI q), (2, vI first), (3, vJ (bsK J I q m nj c).1), (5, vI (bsK J I q m nj c).2), (6, vI (c : Int))] [] := by
    intro l
    induction l with
    | zero =>
      intro c hcl
      have ec : c = 2 ^ (2 * m) := by omega
      have ecI : (c : Int) = 2 ^ (2 * m) := by rw [ec]; exact pmn
      have eb : bsK J I q m nj c = bsE J I q m nj := by rw [ec]; rfl
      rw [eb]
      have a84 : up2 (up2 I 263 q 1) 264 q (bsE J I q m nj).1 100 84 = m := (up2_o _ _ _ _ (by decide)).trans ((up2_o _ _ _ _ (by decide)).trans h84)
      clear hc ec eb
      refine VW.iload (pc' := 80) d_Model_prepare_78 rfl rfl ?_
      refine VW.iconst (pc' := 81) d_Model_prepare_80 rfl (by decide) ?_
      refine VW.iconst (pc' := 82) d_Model_prepare_81 rfl (by decide) ?_
      refine VW.aload_n (pc' := 83) d_Model_prepare_82 rfl rfl ?_
      refine VW.gI (ci := 11) (T := T11) (N := 94) (k := 84) (k' := 84) (pc' := 86) d_Model_prepare_83 rfl lk_Model_510 in11 rfl rfl rfl rfl (hM.k rfl) (by first | exact h84 | exact a84 | rfl) ?_
      refine VW.imul (pc' := 87) d_Model_prepare_86 rfl (by omega) ?_
      refine VW.ishl (pc' := 88) (z := 2 ^ (2 * m)) d_Model_prepare_87 rfl (⟨by omega, by omega⟩) (sl) ?_
      refine VW.icmp_ge (tgt := 144) (pc' := 91) d_Model_prepare_88 rfl rfl (fun c88 => ?_) (fun c88 => ?_)
      · refine VW.aload_n (pc' := 145) d_Model_prepare_144 rfl rfl ?_
        refine VW.gP (ci := 11) (T := T11) (N := 94) (k := 63) (k' := 63) (pc' := 148) d_Model_prepare_145 rfl lk_Model_162 in11 rfl rfl rfl rfl (hM.k rfl) (hM.p (r := some 263) 63 rfl rfl) ?_
        refine VW.iload_n (pc' := 149) d_Model_prepare_148 rfl rfl ?_
        refine VW.iconst (pc' := 150) d_Model_prepare_149 rfl (by decide) ?_
        refine VW.zast (pc' := 151) d_Model_prepare_150 rfl (hM.k rfl) (by omega) (by omega) (by omega) ?_
        refine VW.aload_n (pc' := 152) d_Model_prepare_151 rfl rfl ?_
        refine VW.gP (ci := 11) (T := T11) (N := 94) (k := 64) (k' := 64) (pc' := 155) d_Model_prepare_152 rfl lk_Model_165 in11 rfl rfl rfl rfl (hM.k rfl) (hM.p (r := some 264) 64 rfl rfl) ?_
        refine VW.iload_n (pc' := 156) d_Model_prepare_155 rfl rfl ?_
        refine VW.lload_n (pc' := 157) d_Model_prepare_156 rfl rfl ?_
        refine VW.l2i (pc' := 158) d_Model_prepare_157 rfl (by omega) ?_
        refine VW.iast (pc' := 159) d_Model_prepare_158 rfl (hM.k rfl) (by omega) (by omega) ?_
        refine VW.aload_n (pc' := 160) d_Model_prepare_159 rfl rfl ?_
        refine VW.gP (ci := 11) (T := T11) (N := 94) (k := 65) (k' := 65) (pc' := 163) d_Model_prepare_160 rfl lk_Model_168 in11 rfl rfl rfl rfl (hM.k rfl) (hM.p (r := some 265) 65 rfl rfl) ?_
        refine VW.iload_n (pc' := 164) d_Model_prepare_163 rfl rfl ?_
        refine VW.aload_n (pc' := 165) d_Model_prepare_164 rfl rfl ?_
        refine VW.gI (ci := 11) (T := T11) (N := 94) (k := 84) (k' := 84) (pc' := 168) d_Model_prepare_165 rfl lk_Model_510 in11 rfl rfl rfl rfl (hM.k rfl) (by first | exact h84 | exact a84 | rfl) ?_
        refine VW.iast (pc' := 169) d_Model_prepare_168 rfl (hM.k rfl) (by omega) (by omega) ?_
        refine VW.iconst (pc' := 170) d_Model_prepare_169 rfl (by decide) ?_
        refine VW.istore (pc' := 172) d_Model_prepare_170 rfl rfl ?_
        refine VW.pick [0, 1, 2, 5, 6] ?_
        exact pl
      · exfalso; omega
    | succ l ih =>
      intro c hcl
      have nx := ih (c + 1) (by omega)
      have ecc : ((c + 1 : Nat) : Int) = (c : Int) + 1 := by omega
      rw [ecc] at nx
      have lt : (c : Int) < 2 ^ (2 * m) := by rw [← pmn]; omega
      have og := ordR_rg hm (c : Int)
      have rg := (bsK_rg hc hm c).1
      have cg := (mCost_rg (x := ordR m 0 c) hc (m - 1) (by omega)).2.1
      have oa := sp_Model_orderAt (K := K) (P := P) (J := J) (I := I) (x := (c : Int)) (n := m) hM h84 hm (by omega)
      have io := sp_Model_isOrder (K := K) (P := P) (J := J) (I := I) (x := ordR m 0 c) (n := m) hM h84 (by omega) (by omega)
      have co := sp_Model_costOf (K := K) (P := P) (J := J) (I := I) (q := q) (x := ordR m 0 c) hM hq (by omega) hc
      have yes := fun (z : setN (ordR m 0 c) m = 2 ^ m - 1) (y : (bsK J I q m nj c).1 < 0 ∨ (mCost J I q (ordR m 0 c) m nj (m - 1)).2.1 < (bsK J I q m nj c).1) => (by rw [bsK_1 z y] at nx; exact nx : VW m_Model_prepare false (rmv 3 82) (exY K P φ) K P J I 0 0 78 [(0, vR (some 100)), (1, vI q), (2, vI first), (3, vJ (mCost J I q (ordR m 0 c) m nj (m - 1)).2.1), (5, vI (ordR m 0 c)), (6, vI ((c : Int) + 1))] [])
      have no := fun (z : ¬ (setN (ordR m 0 c) m = 2 ^ m - 1 ∧ ((bsK J I q m nj c).1 < 0 ∨ (mCost J I q (ordR m 0 c) m nj (m - 1)).2.1 < (bsK J I q m nj c).1))) => (by rw [bsK_0 z] at nx; exact nx : VW m_Model_prepare false (rmv 3 82) (exY K P φ) K P J I 0 0 78 [(0, vR (some 100)), (1, vI q), (2, vI first), (3, vJ (bsK J I q m nj c).1), (5, vI (bsK J I q m nj c).2), (6, vI ((c : Int) + 1))] [])
      have n1 := fun (z : ¬ setN (ordR m 0 c) m = 2 ^ m - 1) => no (fun y => z y.1)
      have n2 := fun (z : ¬ (bsK J I q m nj c).1 < 0) (y : ¬ (mCost J I q (ordR m 0 c) m nj (m - 1)).2.1 < (bsK J I q m nj c).1) => no (fun w => w.2.elim z y)
      clear ih nx hc no pl brE
      refine VW.iload (pc' := 80) d_Model_prepare_78 rfl rfl ?_
      refine VW.iconst (pc' := 81) d_Model_prepare_80 rfl (by decide) ?_
      refine VW.iconst (pc' := 82) d_Model_prepare_81 rfl (by decide) ?_
      refine VW.aload_n (pc' := 83) d_Model_prepare_82 rfl rfl ?_
      refine VW.gI (ci := 11) (T := T11) (N := 94) (k := 84) (k' := 84) (pc' := 86) d_Model_prepare_83 rfl lk_Model_510 in11 rfl rfl rfl rfl (hM.k rfl) (by first | exact h84 | rfl) ?_
      refine VW.imul (pc' := 87) d_Model_prepare_86 rfl (by omega) ?_
      refine VW.ishl (pc' := 88) (z := 2 ^ (2 * m)) d_Model_prepare_87 rfl (⟨by omega, by omega⟩) (sl) ?_
      refine VW.icmp_ge (tgt := 144) (pc' := 91) d_Model_prepare_88 rfl rfl (fun c88 => ?_) (fun c88 => ?_)
      · exfalso; omega
      · refine VW.aload_n (pc' := 92) d_Model_prepare_91 rfl rfl ?_
        refine VW.iload (pc' := 94) d_Model_prepare_92 rfl rfl ?_
        refine VW.cV (ci := 11) (T := T11) (N := 94) (pc' := 97) d_Model_prepare_94 rfl mv_Model_orderAt lk_Model_541 rfl (hM.k rfl) rfl rfl rfl (Nat.le_refl _) (Nat.le_refl _) (oa) rfl rfl ?_
        refine VW.istore (pc' := 99) d_Model_prepare_97 rfl rfl ?_
        refine VW.aload_n (pc' := 100) d_Model_prepare_99 rfl rfl ?_
        refine VW.iload (pc' := 102) d_Model_prepare_100 rfl rfl ?_
        refine VW.cV (ci := 11) (T := T11) (N := 94) (pc' := 105) d_Model_prepare_102 rfl mv_Model_isOrder lk_Model_544 rfl (hM.k rfl) rfl rfl rfl (Nat.le_refl _) (Nat.le_refl _) (io) rfl rfl ?_
        refine VW.if_eq (tgt := 138) (pc' := 108) d_Model_prepare_105 rfl rfl (fun c105 => ?_) (fun c105 => ?_)
        · try have e105 := bIe c105
          refine VW.iinc (pc' := 141) d_Model_prepare_138 rfl rfl rfl (by omega) ?_
          refine VW.goto (pc' := 78) d_Model_prepare_141 rfl ?_
          refine VW.pick [0, 1, 2, 3, 5, 6] ?_
          first | exact yes e105 (Or.inl (lc_lt.1 c111)) | exact yes e105 (Or.inr (lc_lt.1 (by omega))) | exact n1 e105 | exact n2 (fun y => by have := lc_lt.2 y; omega) (fun y => by have := lc_lt.2 y; omega)
        · try have e105 := bIn c105
          refine VW.lload_n (pc' := 109) d_Model_prepare_108 rfl rfl ?_
          refine VW.lconst (pc' := 110) (z := 0) d_Model_prepare_109 rfl (by decide) (by decide) ?_
          refine VW.lcmp (pc' := 111) d_Model_prepare_110 rfl ?_
          refine VW.if_lt (tgt := 126) (pc' := 114) d_Model_prepare_111 rfl rfl (fun c111 => ?_) (fun c111 => ?_)
          · refine VW.aload_n (pc' := 127) d_Model_prepare_126 rfl rfl ?_
            refine VW.iload_n (pc' := 128) d_Model_prepare_127 rfl rfl ?_
            refine VW.iload (pc' := 130) d_Model_prepare_128 rfl rfl ?_
            refine VW.cV (ci := 11) (T := T11) (N := 94) (pc' := 133) d_Model_prepare_130 rfl mv_Model_costOf lk_Model_547 rfl (hM.k rfl) rfl rfl rfl (Nat.le_refl _) (Nat.le_refl _) (co) rfl rfl ?_
            refine VW.lstore_n (pc' := 134) d_Model_prepare_133 rfl rfl ?_
            refine VW.iload (pc' := 136) d_Model_prepare_134 rfl rfl ?_
            refine VW.istore (pc' := 138) d_Model_prepare_136 rfl rfl ?_
            refine VW.iinc (pc' := 141) d_Model_prepare_138 rfl rfl rfl (by omega) ?_
            refine VW.goto (pc' := 78) d_Model_prepare_141 rfl ?_
            refine VW.pick [0, 1, 2, 3, 5, 6] ?_
            first | exact yes e105 (Or.inl (lc_lt.1 c111)) | exact yes e105 (Or.inr (lc_lt.1 (by omega))) | exact n1 e105 | exact n2 (fun y => by have := lc_lt.2 y; omega) (fun y => by have := lc_lt.2 y; omega)
          · refine VW.aload_n (pc' := 115) d_Model_prepare_114 rfl rfl ?_
            refine VW.iload_n (pc' := 116) d_Model_prepare_115 rfl rfl ?_
            refine VW.iload (pc' := 118) d_Model_prepare_116 rfl rfl ?_
            refine VW.cV (ci := 11) (T := T11) (N := 94) (pc' := 121) d_Model_prepare_118 rfl mv_Model_costOf lk_Model_547 rfl (hM.k rfl) rfl rfl rfl (Nat.le_refl _) (Nat.le_refl _) (co) rfl rfl ?_
            refine VW.lload_n (pc' := 122) d_Model_prepare_121 rfl rfl ?_
            refine VW.lcmp (pc' := 123) d_Model_prepare_122 rfl ?_
            refine VW.if_ge (tgt := 138) (pc' := 126) d_Model_prepare_123 rfl rfl (fun c123 => ?_) (fun c123 => ?_)
            · refine VW.iinc (pc' := 141) d_Model_prepare_138 rfl rfl rfl (by omega) ?_
              refine VW.goto (pc' := 78) d_Model_prepare_141 rfl ?_
              refine VW.pick [0, 1, 2, 3, 5, 6] ?_
              first | exact yes e105 (Or.inl (lc_lt.1 c111)) | exact yes e105 (Or.inr (lc_lt.1 (by omega))) | exact n1 e105 | exact n2 (fun y => by have := lc_lt.2 y; omega) (fun y => by have := lc_lt.2 y; omega)
            · refine VW.aload_n (pc' := 127) d_Model_prepare_126 rfl rfl ?_
              refine VW.iload_n (pc' := 128) d_Model_prepare_127 rfl rfl ?_
              refine VW.iload (pc' := 130) d_Model_prepare_128 rfl rfl ?_
              refine VW.cV (ci := 11) (T := T11) (N := 94) (pc' := 133) d_Model_prepare_130 rfl mv_Model_costOf lk_Model_547 rfl (hM.k rfl) rfl rfl rfl (Nat.le_refl _) (Nat.le_refl _) (co) rfl rfl ?_
              refine VW.lstore_n (pc' := 134) d_Model_prepare_133 rfl rfl ?_
              refine VW.iload (pc' := 136) d_Model_prepare_134 rfl rfl ?_
              refine VW.istore (pc' := 138) d_Model_prepare_136 rfl rfl ?_
              refine VW.iinc (pc' := 141) d_Model_prepare_138 rfl rfl rfl (by omega) ?_
              refine VW.goto (pc' := 78) d_Model_prepare_141 rfl ?_
              refine VW.pick [0, 1, 2, 3, 5, 6] ?_
              first | exact yes e105 (Or.inl (lc_lt.1 c111)) | exact yes e105 (Or.inr (lc_lt.1 (by omega))) | exact n1 e105 | exact n2 (fun y => by have := lc_lt.2 y; omega) (fun y => by have := lc_lt.2 y; omega)
  have l := loop (2 ^ (2 * m)) 0 (by omega)
  clear loop pl hc
  refine VW.ldc2 (pc' := 71) (z := -1) d_Model_prepare_68 rfl lk_Model_539 (by decide) (by decide) ?_
  refine VW.lstore_n (pc' := 72) d_Model_prepare_71 rfl rfl ?_
  refine VW.iconst (pc' := 73) d_Model_prepare_72 rfl (by decide) ?_
  refine VW.istore (pc' := 75) d_Model_prepare_73 rfl rfl ?_
  refine VW.iconst (pc' := 76) d_Model_prepare_75 rfl (by decide) ?_
  refine VW.istore (pc' := 78) d_Model_prepare_76 rfl rfl ?_
  refine VW.pick [0, 1, 2, 3, 5, 6] ?_
  exact l
end
