section
variable {K : KT} {P : PT} {J I : IT} {Q : PQ}
/-- a join ties a leaf to those ahead of it -/
def mConn (I : IT) (n : Nat) (t leaf j : Int) : Prop := (mLeaf I (I 289 j) n = leaf ∧ t / 2 ^ (mLeaf I (I 290 j) n).toNat % 2 = 1) ∨ (mLeaf I (I 290 j) n = leaf ∧ t / 2 ^ (mLeaf I (I 289 j) n).toNat % 2 = 1)
def mMax (a b : Int) : Int := if a ≤ b then b else a
/-- the rows after the first m joins -/
noncomputable def mCj (I : IT) (q : Int) (n : Nat) (t leaf r : Int) : Nat → Int
  | 0 => r
  | m + 1 => if bI (mConn I n t leaf m) = 1 then mDiv (mCj I q n t leaf r m) (mMax (mVals I q (I 289 m)) (mVals I q (I 290 m))) else mCj I q n t leaf r m
theorem mCj_yes {q : Int} {n m : Nat} {t leaf r : Int} (h : mConn I n t leaf m) : mDiv (mCj I q n t leaf r m) (mMax (mVals I q (I 289 m)) (mVals I q (I 290 m))) = mCj I q n t leaf r (m + 1) := (if_pos (bI1 h)).symm
theorem mCj_no {q : Int} {n m : Nat} {t leaf r : Int} (h : ¬ mConn I n t leaf m) : mCj I q n t leaf r m = mCj I q n t leaf r (m + 1) := (if_neg (by rw [bI0 h]; decide)).symm
theorem mMax_rg {a b : Int} (h1 : 0 ≤ a) (h2 : 0 ≤ b) : 0 ≤ mMax a b := by unfold mMax; split <;> omega
theorem mCj_rg {q : Int} {n : Nat} {t leaf r B : Int} (h : ∀ k, 0 ≤ I 292 k ∧ I 292 k ≤ 8) (hr : 0 ≤ r ∧ r ≤ B) (hB : 1 ≤ B) : ∀ m : Nat, 0 ≤ mCj I q n t leaf r m ∧ mCj I q n t leaf r m ≤ B := by
  intro m
  induction m with
  | zero => exact hr
  | succ m ih =>
    by_cases g : mConn I n t leaf m
    · rw [← mCj_yes g]
      have := mDiv_rg (v := mCj I q n t leaf r m) (b := mMax (mVals I q (I 289 m)) (mVals I q (I 290 m))) ih.1 (mMax_rg (mVals_rg h).1 (mVals_rg h).1)
      omega
    · rw [← mCj_no g]; exact ih
/-- rows, cost and leaves taken after the first leaf and k more -/
noncomputable def mCost (J I : IT) (q x : Int) (n m : Nat) : Nat → Int × Int × Int
  | 0 => (J 287 (x % 4), 0, 2 ^ (x % 4).toNat)
  | k + 1 => (mCj I q n (mCost J I q x n m k).2.2 (digO x (k + 1)) ((mCost J I q x n m k).1 * J 287 (digO x (k + 1))) m, (mCost J I q x n m k).2.1 + mCj I q n (mCost J I q x n m k).2.2 (digO x (k + 1)) ((mCost J I q x n m k).1 * J 287 (digO x (k + 1))) m, orB (mCost J I q x n m k).2.2 (digO x (k + 1)))
/-- what costs are counted from -/
def CoOK (J I : IT) (q : Int) (n m : Nat) : Prop := (I 100 84 = n ∧ 1 ≤ n ∧ n ≤ 3) ∧ (I 100 88 = m ∧ m ≤ 12) ∧ (∀ k, 0 ≤ J 287 k ∧ J 287 k ≤ 10) ∧ (∀ k, 0 ≤ I 292 k ∧ I 292 k ≤ 8) ∧ (∀ j : Int, 0 ≤ j → j < m → mVlOK I q (I 289 j) ∧ mVlOK I q (I 290 j))
theorem mCost_rg {q x : Int} {n m : Nat} (h : CoOK J I q n m) : ∀ k : Nat, k ≤ 2 → (0 ≤ (mCost J I q x n m k).1 ∧ (mCost J I q x n m k).1 ≤ 10 ^ (k + 1)) ∧ (0 ≤ (mCost J I q x n m k).2.1 ∧ (mCost J I q x n m k).2.1 ≤ 2000 * k) ∧ (0 ≤ (mCost J I q x n m k).2.2 ∧ (mCost J I q x n m k).2.2 < 16) := by
  intro k
  induction k with
  | zero =>
    intro _
    have a := h.2.2.1 (x % 4)
    have b := pw4 (d := x % 4) (by omega)
    refine ⟨⟨a.1, a.2⟩, ⟨Int.le_refl _, by show (0 : Int) ≤ 2000 * 0; omega⟩, ?_⟩
    show 0 ≤ (2 : Int) ^ (x % 4).toNat ∧ (2 : Int) ^ (x % 4).toNat < 16
    omega
  | succ k ih =>
    intro hk
    have i := ih (by omega)
    have a := h.2.2.1 (digO x (k + 1))
    have hB : (1 : Int) ≤ 10 ^ (k + 1 + 1) ∧ (10 : Int) ^ (k + 1 + 1) ≤ 1000 ∧ (10 : Int) ^ (k + 1) * 10 = 10 ^ (k + 1 + 1) := by
      have : k = 0 ∨ k = 1 := by omega
      rcases this with z | z <;> subst z <;> decide
    have r : 0 ≤ (mCost J I q x n m k).1 * J 287 (digO x (k + 1)) ∧ (mCost J I q x n m k).1 * J 287 (digO x (k + 1)) ≤ 10 ^ (k + 1 + 1) := by
      rw [← hB.2.2]
      exact ⟨mulNN i.1.1 a.1, mulUp i.1.1 a.1 i.1.2 a.2⟩
    have c := mCj_rg (I := I) (q := q) (n := n) (t := (mCost J I q x n m k).2.2) (leaf := digO x (k + 1)) h.2.2.2.1 r hB.1 m
    refine ⟨c, ?_, orB_rg i.2.2 (digO_rg x (k + 1))⟩
    show 0 ≤ (mCost J I q x n m k).2.1 + mCj I q n (mCost J I q x n m k).2.2 (digO x (k + 1)) ((mCost J I q x n m k).1 * J 287 (digO x (k + 1))) m ∧ (mCost J I q x n m k).2.1 + mCj I q n (mCost J I q x n m k).2.2 (digO x (k + 1)) ((mCost J I q x n m k).1 * J 287 (digO x (k + 1))) m ≤ 2000 * ((k + 1 : Nat) : Int)
    omega
theorem sp_Model_costOf {q x : Int} {n m : Nat} (hM : MW K P) (hq : 0 ≤ q ∧ q < 20) (hx : 0 ≤ x ∧ x ≤ 1000) (hk : CoOK J I q n m) : Sp m_Model_costOf false (rmv 2 47) (ex K P J I (.inl (some (vJ (mCost J I q x n m (n - 1)).2.1)))) K P J I [vR (some 100), vI q, vI x] := by
  refine Sp.ofV (by decide) (Or.inr rfl) rfl ?_
  obtain ⟨⟨h84, hn1, hn3⟩, ⟨h88, hm⟩, hJ, hS, hV⟩ := hk
  have hk : CoOK J I q n m := ⟨⟨h84, hn1, hn3⟩, ⟨h88, hm⟩, hJ, hS, hV⟩
  have eN : (I 100 84).toNat = n := by omega
  have loop : ∀ (l k : Nat), k + 1 + l = n → VW m_Model_costOf false (rmv 2 47) (ex K P J I (.inl (some (vJ (mCost J I q x n m (n - 1)).2.1)))) K P J I 0 0 22 [(0, vR (some 100)), (1, vI q), (2, vI x), (3, vJ (mCost J I q x n m k).1), (5, vJ (mCost J I q x n m k).2.1), (7, vI (mCost J I q x n m k).2.2), (8, vI ((k : Int) + 1))] [] := by
    intro l
    induction l with
    | zero =>
      intro k hk1
      have ek : n - 1 = k := by omega
      rw [ek]
      refine VW.iload (pc' := 24) d_Model_costOf_22 rfl rfl ?_
      refine VW.aload_n (pc' := 25) d_Model_costOf_24 rfl rfl ?_
      refine VW.gI (ci := 11) (T := T11) (N := 94) (k := 84) (k' := 84) (pc' := 28) d_Model_costOf_25 rfl lk_Model_510 in11 rfl rfl rfl rfl (hM.k rfl) (by first | exact h84 | rfl) ?_
      refine VW.icmp_ge (tgt := 211) (pc' := 31) d_Model_costOf_28 rfl rfl (fun c28 => ?_) (fun c28 => ?_)
      · refine VW.lload (pc' := 213) d_Model_costOf_211 rfl rfl ?_
        exact VW.lret d_Model_costOf_213 rfl (Nat.zero_le _) (Nat.zero_le _) ex_rf
      · exfalso; omega
    | succ l ih =>
      intro k hk1
      have ih1 := ih (k + 1) (by omega)
      have ek : ((k + 1 : Nat) : Int) = (k : Int) + 1 := by omega
      rw [ek] at ih1
      have rg := mCost_rg (x := x) hk k (by omega)
      have rg2 := mCost_rg (x := x) hk (k + 1) (by omega)
      have a := hJ (digO x (k + 1))
      have dg := digO_rg x (k + 1)
      have p10 : (10 : Int) ^ (k + 1) ≤ 100 := by
        have : k = 0 ∨ k = 1 := by omega
        rcases this with z | z <;> subst z <;> decide
      have rr : 0 ≤ (mCost J I q x n m k).1 * J 287 (digO x (k + 1)) ∧ (mCost J I q x n m k).1 * J 287 (digO x (k + 1)) ≤ 100 * 10 := ⟨mulNN rg.1.1 a.1, mulUp rg.1.1 a.1 (by omega) a.2⟩
      have d1 := digD (k := k + 1) (x := x) (by omega)
      have b1 := digB (k := k + 1) (x := x) (by omega) (by omega)
      rw [show 2 * ((k + 1 : Nat) : Int) = 2 * ((k : Int) + 1) by omega] at b1
      have b2 := iand3 d1.1 d1.2
      have nx : VW m_Model_costOf false (rmv 2 47) (ex K P J I (.inl (some (vJ (mCost J I q x n m (n - 1)).2.1)))) K P J I 0 0 22 [(0, vR (some 100)), (1, vI q), (2, vI x), (3, vJ 0), (5, vJ 0), (7, vI 0), (8, vI 0)] [] → VW m_Model_costOf false (rmv 2 47) (ex K P J I (.inl (some (vJ (mCost J I q x n m (n - 1)).2.1)))) K P J I 0 0 22 [(0, vR (some 100)), (1, vI q), (2, vI x), (3, vJ 0), (5, vJ 0), (7, vI 0), (8, vI 0)] [] := id
      rw [show mCost J I q x n m (k + 1) = (mCj I q n (mCost J I q x n m k).2.2 (digO x (k + 1)) ((mCost J I q x n m k).1 * J 287 (digO x (k + 1))) m, (mCost J I q x n m k).2.1 + mCj I q n (mCost J I q x n m k).2.2 (digO x (k + 1)) ((mCost J I q x n m k).1 * J 287 (digO x (k + 1))) m, orB (mCost J I q x n m k).2.2 (digO x (k + 1))) from rfl] at ih1 rg2
      clear ih nx
      generalize (mCost J I q x n m k).1 = r at *
      generalize (mCost J I q x n m k).2.1 = c at *
      generalize (mCost J I q x n m k).2.2 = t at *
      generalize hleaf : digO x (k + 1) = leaf at *
      generalize hr2 : r * J 287 leaf = r2 at *
      have joins : ∀ (l2 j : Nat), j + l2 = m → VW m_Model_costOf false (rmv 2 47) (ex K P J I (.inl (some (vJ (mCost J I q x n m (n - 1)).2.1)))) K P J I 0 0 54 [(0, vR (some 100)), (1, vI q), (2, vI x), (3, vJ (mCj I q n t leaf r2 j)), (5, vJ c), (7, vI t), (8, vI ((k : Int) + 1)), (9, vI leaf), (10, vI (j : Int))] [] := by
        intro l2
        induction l2 with
        | zero =>
          intro j hj
          have ej : j = m := by omega
          rw [ej]
          have p2 := pw4 dg
          have ob : 0 ≤ orB t leaf ∧ orB t leaf < 16 := rg2.2.2
          have b3 := ishl1 (b := leaf) dg.1 (by omega)
          have b4 := ior64 (a := t) (k := leaf) rg.2.2.1 (by omega) dg.1 (by omega)
          clear hV hJ hS
          refine VW.iload (pc' := 56) d_Model_costOf_54 rfl rfl ?_
          refine VW.aload_n (pc' := 57) d_Model_costOf_56 rfl rfl ?_
          refine VW.gI (ci := 11) (T := T11) (N := 94) (k := 88) (k' := 88) (pc' := 60) d_Model_costOf_57 rfl lk_Model_513 in11 rfl rfl rfl rfl (hM.k rfl) (by first | exact h88 | rfl) ?_
          refine VW.icmp_ge (tgt := 190) (pc' := 63) d_Model_costOf_60 rfl rfl (fun c60 => ?_) (fun c60 => ?_)
          · refine VW.lload (pc' := 192) d_Model_costOf_190 rfl rfl ?_
            refine VW.lload_n (pc' := 193) d_Model_costOf_192 rfl rfl ?_
            refine VW.ladd (pc' := 194) d_Model_costOf_193 rfl (by first | omega | (constructor <;> omega)) ?_
            refine VW.lstore (pc' := 196) d_Model_costOf_194 rfl rfl ?_
            refine VW.iload (pc' := 198) d_Model_costOf_196 rfl rfl ?_
            refine VW.iconst (pc' := 199) d_Model_costOf_198 rfl (by decide) ?_
            refine VW.iload (pc' := 201) d_Model_costOf_199 rfl rfl ?_
            refine VW.ishl (pc' := 202) (z := 2 ^ leaf.toNat) d_Model_costOf_201 rfl (⟨by omega, by omega⟩) (b3) ?_
            refine VW.ior (pc' := 203) (z := orB t leaf) d_Model_costOf_202 rfl (⟨by omega, by omega⟩) (b4) ?_
            refine VW.istore (pc' := 205) d_Model_costOf_203 rfl rfl ?_
            refine VW.iinc (pc' := 208) d_Model_costOf_205 rfl rfl rfl (by omega) ?_
            refine VW.goto (pc' := 22) d_Model_costOf_208 rfl ?_
            refine VW.pick [0, 1, 2, 3, 5, 7, 8] ?_
            exact ih1
          · exfalso; omega
        | succ l2 ih2 =>
          intro j hj
          have nx := ih2 (j + 1) (by omega)
          have ej : ((j + 1 : Nat) : Int) = (j : Int) + 1 := by omega
          rw [ej] at nx
          have v := hV j (by omega) (by omega)
          have lr1 := mLeaf_rg (I := I) (I 289 j) n
          have lr2 := mLeaf_rg (I := I) (I 290 j) n
          have vr1 := mVals_rg (q := q) (c := I 289 j) hS
          have vr2 := mVals_rg (q := q) (c := I 290 j) hS
          have cr := mCj_rg (I := I) (q := q) (n := n) (t := t) (leaf := leaf) (r := r2) (B := 1000) hS (by omega) (by decide) j
          have L1 := sp_Model_leafOf (K := K) (P := P) (J := J) (I := I) (c := I 289 j) hM (by omega)
          have L2 := sp_Model_leafOf (K := K) (P := P) (J := J) (I := I) (c := I 290 j) hM (by omega)
          rw [eN] at L1 L2
          have V1 := sp_Model_valuesOf (K := K) (P := P) (J := J) (I := I) (q := q) (c := I 289 j) hM hq (by omega) v.1
          have V2 := sp_Model_valuesOf (K := K) (P := P) (J := J) (I := I) (q := q) (c := I 290 j) hM hq (by omega) v.2
          have i1 := ishr32 (a := t) (b := mLeaf I (I 289 j) n) ⟨by omega, by omega⟩ lr1.1 (by omega)
          have i2 := ishr32 (a := t) (b := mLeaf I (I 290 j) n) ⟨by omega, by omega⟩ lr2.1 (by omega)
          have q1 : 0 ≤ t / 2 ^ (mLeaf I (I 289 j) n).toNat ∧ t / 2 ^ (mLeaf I (I 289 j) n).toNat ≤ 2147483647 := ⟨divP rg.2.2.1, (divN (a := t) (m := (mLeaf I (I 289 j) n).toNat) ⟨by omega, by omega⟩).2⟩
          have q2 : 0 ≤ t / 2 ^ (mLeaf I (I 290 j) n).toNat ∧ t / 2 ^ (mLeaf I (I 290 j) n).toNat ≤ 2147483647 := ⟨divP rg.2.2.1, (divN (a := t) (m := (mLeaf I (I 290 j) n).toNat) ⟨by omega, by omega⟩).2⟩
          have a1 := iand1 q1.1 q1.2
          have a2 := iand1 q2.1 q2.2
          have yes := fun (z : mConn I n t leaf j) => mCj_yes (q := q) (r := r2) z
          have no := fun (z : ¬ mConn I n t leaf j) => mCj_no (q := q) (r := r2) z
          have goN : ¬ mConn I n t leaf j → VW m_Model_costOf false (rmv 2 47) (ex K P J I (.inl (some (vJ (mCost J I q x n m (n - 1)).2.1)))) K P J I 0 0 54 [(0, vR (some 100)), (1, vI q), (2, vI x), (3, vJ (mCj I q n t leaf r2 j)), (5, vJ c), (7, vI t), (8, vI ((k : Int) + 1)), (9, vI leaf), (10, vI ((j : Int) + 1))] [] := fun z => by rw [no z]; exact nx
          have goY : mConn I n t leaf j → ∀ mx, mx = mMax (mVals I q (I 289 j)) (mVals I q (I 290 j)) → VW m_Model_costOf false (rmv 2 47) (ex K P J I (.inl (some (vJ (mCost J I q x n m (n - 1)).2.1)))) K P J I 0 0 54 [(0, vR (some 100)), (1, vI q), (2, vI x), (3, vJ (mDiv (mCj I q n t leaf r2 j) mx)), (5, vJ c), (7, vI t), (8, vI ((k : Int) + 1)), (9, vI leaf), (10, vI ((j : Int) + 1))] [] := fun z mx h => by rw [h, yes z]; exact nx
          have mxg := mMax_rg vr1.1 vr2.1
          clear ih2 nx yes no hV hJ hS v ih1
          have cc : ∀ (z : Int), (z = 1 → mConn I n t leaf j) → (z = 0 → ¬ mConn I n t leaf j) → (z = 0 ∨ z = 1) → VW m_Model_costOf false (rmv 2 47) (ex K P J I (.inl (some (vJ (mCost J I q x n m (n - 1)).2.1)))) K P J I 0 0 132 [(0, vR (some 100)), (1, vI q), (2, vI x), (3, vJ (mCj I q n t leaf r2 j)), (5, vJ c), (7, vI t), (8, vI ((k : Int) + 1)), (9, vI leaf), (10, vI (j : Int)), (11, vI (mLeaf I (I 289 j) n)), (12, vI (mLeaf I (I 290 j) n)), (13, vI z)] [] := by
            intro z h1 h0 h01
            rcases h01 with e | e
            · subst e
              have g := goN (h0 rfl)
              clear h1 h0 goN goY
              refine VW.iload (pc' := 134) d_Model_costOf_132 rfl rfl ?_
              refine VW.if_eq (tgt := 184) (pc' := 137) d_Model_costOf_134 rfl rfl (fun _ => ?_) (fun c134 => absurd c134 (by decide))
              refine VW.iinc (pc' := 187) d_Model_costOf_184 rfl rfl rfl (by omega) ?_
              refine VW.goto (pc' := 54) d_Model_costOf_187 rfl ?_
              refine VW.pick [0, 1, 2, 3, 5, 7, 8, 9, 10] ?_
              exact g
            · subst e
              have g := goY (h1 rfl)
              clear h1 h0 goN goY
              refine VW.iload (pc' := 134) d_Model_costOf_132 rfl rfl ?_
              refine VW.if_eq (tgt := 184) (pc' := 137) d_Model_costOf_134 rfl rfl (fun c134 => absurd c134 (by decide)) (fun _ => ?_)
              refine VW.aload_n (pc' := 138) d_Model_costOf_137 rfl rfl ?_
              refine VW.iload_n (pc' := 139) d_Model_costOf_138 rfl rfl ?_
              refine VW.aload_n (pc' := 140) d_Model_costOf_139 rfl rfl ?_
              refine VW.gP (ci := 11) (T := T11) (N := 94) (k := 89) (k' := 89) (pc' := 143) d_Model_costOf_140 rfl lk_Model_219 in11 rfl rfl rfl rfl (hM.k rfl) (hM.p (r := some 289) 89 rfl rfl) ?_
              refine VW.iload (pc' := 145) d_Model_costOf_143 rfl rfl ?_
              refine VW.ild (pc' := 146) d_Model_costOf_145 rfl (hM.k rfl) (by omega) (by omega) (rfl) ?_
              refine VW.cV (ci := 11) (T := T11) (N := 94) (pc' := 149) d_Model_costOf_146 rfl mv_Model_valuesOf lk_Model_520 rfl (hM.k rfl) rfl rfl rfl (Nat.le_refl _) (Nat.le_refl _) (V1) rfl rfl ?_
              refine VW.istore (pc' := 151) d_Model_costOf_149 rfl rfl ?_
              refine VW.aload_n (pc' := 152) d_Model_costOf_151 rfl rfl ?_
              refine VW.iload_n (pc' := 153) d_Model_costOf_152 rfl rfl ?_
              refine VW.aload_n (pc' := 154) d_Model_costOf_153 rfl rfl ?_
              refine VW.gP (ci := 11) (T := T11) (N := 94) (k := 90) (k' := 90) (pc' := 157) d_Model_costOf_154 rfl lk_Model_222 in11 rfl rfl rfl rfl (hM.k rfl) (hM.p (r := some 290) 90 rfl rfl) ?_
              refine VW.iload (pc' := 159) d_Model_costOf_157 rfl rfl ?_
              refine VW.ild (pc' := 160) d_Model_costOf_159 rfl (hM.k rfl) (by omega) (by omega) (rfl) ?_
              refine VW.cV (ci := 11) (T := T11) (N := 94) (pc' := 163) d_Model_costOf_160 rfl mv_Model_valuesOf lk_Model_520 rfl (hM.k rfl) rfl rfl rfl (Nat.le_refl _) (Nat.le_refl _) (V2) rfl rfl ?_
              refine VW.istore (pc' := 165) d_Model_costOf_163 rfl rfl ?_
              refine VW.lload_n (pc' := 166) d_Model_costOf_165 rfl rfl ?_
              refine VW.iload (pc' := 168) d_Model_costOf_166 rfl rfl ?_
              refine VW.iload (pc' := 170) d_Model_costOf_168 rfl rfl ?_
              refine VW.icmp_le (tgt := 178) (pc' := 173) d_Model_costOf_170 rfl rfl (fun c170 => ?_) (fun c170 => ?_)
              · refine VW.iload (pc' := 180) d_Model_costOf_178 rfl rfl ?_
                refine VW.cS (pc' := 183) d_Model_costOf_180 rfl ms_Model_divided lk_Model_523 rfl rfl rfl (Nat.le_refl _) (Nat.le_refl _) (sp_Model_divided (by omega) (by omega)) rfl rfl ?_
                refine VW.lstore_n (pc' := 184) d_Model_costOf_183 rfl rfl ?_
                refine VW.iinc (pc' := 187) d_Model_costOf_184 rfl rfl rfl (by omega) ?_
                refine VW.goto (pc' := 54) d_Model_costOf_187 rfl ?_
                refine VW.pick [0, 1, 2, 3, 5, 7, 8, 9, 10] ?_
                first | exact g _ (if_pos (by omega)).symm | exact g _ (if_neg (by omega)).symm
              · refine VW.iload (pc' := 175) d_Model_costOf_173 rfl rfl ?_
                refine VW.goto (pc' := 180) d_Model_costOf_175 rfl ?_
                refine VW.cS (pc' := 183) d_Model_costOf_180 rfl ms_Model_divided lk_Model_523 rfl rfl rfl (Nat.le_refl _) (Nat.le_refl _) (sp_Model_divided (by omega) (by omega)) rfl rfl ?_
                refine VW.lstore_n (pc' := 184) d_Model_costOf_183 rfl rfl ?_
                refine VW.iinc (pc' := 187) d_Model_costOf_184 rfl rfl rfl (by omega) ?_
                refine VW.goto (pc' := 54) d_Model_costOf_187 rfl ?_
                refine VW.pick [0, 1, 2, 3, 5, 7, 8, 9, 10] ?_
                first | exact g _ (if_pos (by omega)).symm | exact g _ (if_neg (by omega)).symm
          clear goN goY V1 V2
          refine VW.iload (pc' := 56) d_Model_costOf_54 rfl rfl ?_
          refine VW.aload_n (pc' := 57) d_Model_costOf_56 rfl rfl ?_
          refine VW.gI (ci := 11) (T := T11) (N := 94) (k := 88) (k' := 88) (pc' := 60) d_Model_costOf_57 rfl lk_Model_513 in11 rfl rfl rfl rfl (hM.k rfl) (by first | exact h88 | rfl) ?_
          refine VW.icmp_ge (tgt := 190) (pc' := 63) d_Model_costOf_60 rfl rfl (fun c60 => ?_) (fun c60 => ?_)
          · exfalso; omega
          · refine VW.aload_n (pc' := 64) d_Model_costOf_63 rfl rfl ?_
            refine VW.aload_n (pc' := 65) d_Model_costOf_64 rfl rfl ?_
            refine VW.gP (ci := 11) (T := T11) (N := 94) (k := 89) (k' := 89) (pc' := 68) d_Model_costOf_65 rfl lk_Model_219 in11 rfl rfl rfl rfl (hM.k rfl) (hM.p (r := some 289) 89 rfl rfl) ?_
            refine VW.iload (pc' := 70) d_Model_costOf_68 rfl rfl ?_
            refine VW.ild (pc' := 71) d_Model_costOf_70 rfl (hM.k rfl) (by omega) (by omega) (by first | exact h88 | rfl) ?_
            refine VW.cV (ci := 11) (T := T11) (N := 94) (pc' := 74) d_Model_costOf_71 rfl mv_Model_leafOf lk_Model_517 rfl (hM.k rfl) rfl rfl rfl (Nat.le_refl _) (Nat.le_refl _) (L1) rfl rfl ?_
            refine VW.istore (pc' := 76) d_Model_costOf_74 rfl rfl ?_
            refine VW.aload_n (pc' := 77) d_Model_costOf_76 rfl rfl ?_
            refine VW.aload_n (pc' := 78) d_Model_costOf_77 rfl rfl ?_
            refine VW.gP (ci := 11) (T := T11) (N := 94) (k := 90) (k' := 90) (pc' := 81) d_Model_costOf_78 rfl lk_Model_222 in11 rfl rfl rfl rfl (hM.k rfl) (hM.p (r := some 290) 90 rfl rfl) ?_
            refine VW.iload (pc' := 83) d_Model_costOf_81 rfl rfl ?_
            refine VW.ild (pc' := 84) d_Model_costOf_83 rfl (hM.k rfl) (by omega) (by omega) (by first | exact h88 | rfl) ?_
            refine VW.cV (ci := 11) (T := T11) (N := 94) (pc' := 87) d_Model_costOf_84 rfl mv_Model_leafOf lk_Model_517 rfl (hM.k rfl) rfl rfl rfl (Nat.le_refl _) (Nat.le_refl _) (L2) rfl rfl ?_
            refine VW.istore (pc' := 89) d_Model_costOf_87 rfl rfl ?_
            refine VW.iload (pc' := 91) d_Model_costOf_89 rfl rfl ?_
            refine VW.iload (pc' := 93) d_Model_costOf_91 rfl rfl ?_
            refine VW.icmp_ne (tgt := 107) (pc' := 96) d_Model_costOf_93 rfl rfl (fun c93 => ?_) (fun c93 => ?_)
            · refine VW.iload (pc' := 109) d_Model_costOf_107 rfl rfl ?_
              refine VW.iload (pc' := 111) d_Model_costOf_109 rfl rfl ?_
              refine VW.icmp_ne (tgt := 129) (pc' := 114) d_Model_costOf_111 rfl rfl (fun c111 => ?_) (fun c111 => ?_)
              · refine VW.iconst (pc' := 130) d_Model_costOf_129 rfl (by decide) ?_
                refine VW.istore (pc' := 132) d_Model_costOf_130 rfl rfl ?_
                refine VW.pick [0, 1, 2, 3, 5, 7, 8, 9, 10, 11, 12, 13] ?_
                first | exact cc 1 (fun _ => Or.inl ⟨c93, by omega⟩) (fun y => absurd y (by decide)) (Or.inr rfl) | exact cc 1 (fun _ => Or.inr ⟨c111, by omega⟩) (fun y => absurd y (by decide)) (Or.inr rfl) | exact cc 0 (fun y => absurd y (by decide)) (fun _ y => by unfold mConn at y; omega) (Or.inl rfl)
              · refine VW.iload (pc' := 116) d_Model_costOf_114 rfl rfl ?_
                refine VW.iload (pc' := 118) d_Model_costOf_116 rfl rfl ?_
                refine VW.ishr (pc' := 119) (z := t / 2 ^ (mLeaf I (I 289 j) n).toNat) d_Model_costOf_118 rfl (⟨by omega, by omega⟩) (i1) ?_
                refine VW.iconst (pc' := 120) d_Model_costOf_119 rfl (by decide) ?_
                refine VW.iand (pc' := 121) (z := t / 2 ^ (mLeaf I (I 289 j) n).toNat % 2) d_Model_costOf_120 rfl (⟨by omega, by omega⟩) (a1) ?_
                refine VW.iconst (pc' := 122) d_Model_costOf_121 rfl (by decide) ?_
                refine VW.icmp_ne (tgt := 129) (pc' := 125) d_Model_costOf_122 rfl rfl (fun c122 => ?_) (fun c122 => ?_)
                · refine VW.iconst (pc' := 130) d_Model_costOf_129 rfl (by decide) ?_
                  refine VW.istore (pc' := 132) d_Model_costOf_130 rfl rfl ?_
                  refine VW.pick [0, 1, 2, 3, 5, 7, 8, 9, 10, 11, 12, 13] ?_
                  first | exact cc 1 (fun _ => Or.inl ⟨c93, by omega⟩) (fun y => absurd y (by decide)) (Or.inr rfl) | exact cc 1 (fun _ => Or.inr ⟨c111, by omega⟩) (fun y => absurd y (by decide)) (Or.inr rfl) | exact cc 0 (fun y => absurd y (by decide)) (fun _ y => by unfold mConn at y; omega) (Or.inl rfl)
                · refine VW.iconst (pc' := 126) d_Model_costOf_125 rfl (by decide) ?_
                  refine VW.goto (pc' := 130) d_Model_costOf_126 rfl ?_
                  refine VW.istore (pc' := 132) d_Model_costOf_130 rfl rfl ?_
                  refine VW.pick [0, 1, 2, 3, 5, 7, 8, 9, 10, 11, 12, 13] ?_
                  first | exact cc 1 (fun _ => Or.inl ⟨c93, by omega⟩) (fun y => absurd y (by decide)) (Or.inr rfl) | exact cc 1 (fun _ => Or.inr ⟨c111, by omega⟩) (fun y => absurd y (by decide)) (Or.inr rfl) | exact cc 0 (fun y => absurd y (by decide)) (fun _ y => by unfold mConn at y; omega) (Or.inl rfl)
            · refine VW.iload (pc' := 98) d_Model_costOf_96 rfl rfl ?_
              refine VW.iload (pc' := 100) d_Model_costOf_98 rfl rfl ?_
              refine VW.ishr (pc' := 101) (z := t / 2 ^ (mLeaf I (I 290 j) n).toNat) d_Model_costOf_100 rfl (⟨by omega, by omega⟩) (i2) ?_
              refine VW.iconst (pc' := 102) d_Model_costOf_101 rfl (by decide) ?_
              refine VW.iand (pc' := 103) (z := t / 2 ^ (mLeaf I (I 290 j) n).toNat % 2) d_Model_costOf_102 rfl (⟨by omega, by omega⟩) (a2) ?_
              refine VW.iconst (pc' := 104) d_Model_costOf_103 rfl (by decide) ?_
              refine VW.icmp_eq (tgt := 125) (pc' := 107) d_Model_costOf_104 rfl rfl (fun c104 => ?_) (fun c104 => ?_)
              · refine VW.iconst (pc' := 126) d_Model_costOf_125 rfl (by decide) ?_
                refine VW.goto (pc' := 130) d_Model_costOf_126 rfl ?_
                refine VW.istore (pc' := 132) d_Model_costOf_130 rfl rfl ?_
                refine VW.pick [0, 1, 2, 3, 5, 7, 8, 9, 10, 11, 12, 13] ?_
                first | exact cc 1 (fun _ => Or.inl ⟨c93, by omega⟩) (fun y => absurd y (by decide)) (Or.inr rfl) | exact cc 1 (fun _ => Or.inr ⟨c111, by omega⟩) (fun y => absurd y (by decide)) (Or.inr rfl) | exact cc 0 (fun y => absurd y (by decide)) (fun _ y => by unfold mConn at y; omega) (Or.inl rfl)
              · refine VW.iload (pc' := 109) d_Model_costOf_107 rfl rfl ?_
                refine VW.iload (pc' := 111) d_Model_costOf_109 rfl rfl ?_
                refine VW.icmp_ne (tgt := 129) (pc' := 114) d_Model_costOf_111 rfl rfl (fun c111 => ?_) (fun c111 => ?_)
                · refine VW.iconst (pc' := 130) d_Model_costOf_129 rfl (by decide) ?_
                  refine VW.istore (pc' := 132) d_Model_costOf_130 rfl rfl ?_
                  refine VW.pick [0, 1, 2, 3, 5, 7, 8, 9, 10, 11, 12, 13] ?_
                  first | exact cc 1 (fun _ => Or.inl ⟨c93, by omega⟩) (fun y => absurd y (by decide)) (Or.inr rfl) | exact cc 1 (fun _ => Or.inr ⟨c111, by omega⟩) (fun y => absurd y (by decide)) (Or.inr rfl) | exact cc 0 (fun y => absurd y (by decide)) (fun _ y => by unfold mConn at y; omega) (Or.inl rfl)
                · refine VW.iload (pc' := 116) d_Model_costOf_114 rfl rfl ?_
                  refine VW.iload (pc' := 118) d_Model_costOf_116 rfl rfl ?_
                  refine VW.ishr (pc' := 119) (z := t / 2 ^ (mLeaf I (I 289 j) n).toNat) d_Model_costOf_118 rfl (⟨by omega, by omega⟩) (i1) ?_
                  refine VW.iconst (pc' := 120) d_Model_costOf_119 rfl (by decide) ?_
                  refine VW.iand (pc' := 121) (z := t / 2 ^ (mLeaf I (I 289 j) n).toNat % 2) d_Model_costOf_120 rfl (⟨by omega, by omega⟩) (a1) ?_
                  refine VW.iconst (pc' := 122) d_Model_costOf_121 rfl (by decide) ?_
                  refine VW.icmp_ne (tgt := 129) (pc' := 125) d_Model_costOf_122 rfl rfl (fun c122 => ?_) (fun c122 => ?_)
                  · refine VW.iconst (pc' := 130) d_Model_costOf_129 rfl (by decide) ?_
                    refine VW.istore (pc' := 132) d_Model_costOf_130 rfl rfl ?_
                    refine VW.pick [0, 1, 2, 3, 5, 7, 8, 9, 10, 11, 12, 13] ?_
                    first | exact cc 1 (fun _ => Or.inl ⟨c93, by omega⟩) (fun y => absurd y (by decide)) (Or.inr rfl) | exact cc 1 (fun _ => Or.inr ⟨c111, by omega⟩) (fun y => absurd y (by decide)) (Or.inr rfl) | exact cc 0 (fun y => absurd y (by decide)) (fun _ y => by unfold mConn at y; omega) (Or.inl rfl)
                  · refine VW.iconst (pc' := 126) d_Model_costOf_125 rfl (by decide) ?_
                    refine VW.goto (pc' := 130) d_Model_costOf_126 rfl ?_
                    refine VW.istore (pc' := 132) d_Model_costOf_130 rfl rfl ?_
                    refine VW.pick [0, 1, 2, 3, 5, 7, 8, 9, 10, 11, 12, 13] ?_
                    first | exact cc 1 (fun _ => Or.inl ⟨c93, by omega⟩) (fun y => absurd y (by decide)) (Or.inr rfl) | exact cc 1 (fun _ => Or.inr ⟨c111, by omega⟩) (fun y => absurd y (by decide)) (Or.inr rfl) | exact cc 0 (fun y => absurd y (by decide)) (fun _ y => by unfold mConn at y; omega) (Or.inl rfl)
      have j0 := joins m 0 (by omega)
      clear joins ih1 hV hS
      refine VW.iload (pc' := 24) d_Model_costOf_22 rfl rfl ?_
      refine VW.aload_n (pc' := 25) d_Model_costOf_24 rfl rfl ?_
      refine VW.gI (ci := 11) (T := T11) (N := 94) (k := 84) (k' := 84) (pc' := 28) d_Model_costOf_25 rfl lk_Model_510 in11 rfl rfl rfl rfl (hM.k rfl) (by first | exact h84 | rfl) ?_
      refine VW.icmp_ge (tgt := 211) (pc' := 31) d_Model_costOf_28 rfl rfl (fun c28 => ?_) (fun c28 => ?_)
      · exfalso; omega
      · refine VW.iload_n (pc' := 32) d_Model_costOf_31 rfl rfl ?_
        refine VW.iconst (pc' := 33) d_Model_costOf_32 rfl (by decide) ?_
        refine VW.iload (pc' := 35) d_Model_costOf_33 rfl rfl ?_
        refine VW.imul (pc' := 36) d_Model_costOf_35 rfl (by omega) ?_
        refine VW.ishr (pc' := 37) (z := x / 2 ^ (2 * (k + 1))) d_Model_costOf_36 rfl (⟨by omega, by omega⟩) (b1) ?_
        refine VW.iconst (pc' := 38) d_Model_costOf_37 rfl (by decide) ?_
        refine VW.iand (pc' := 39) (z := leaf) d_Model_costOf_38 rfl (⟨by omega, by omega⟩) ((by rw [← hleaf]; exact b2)) ?_
        refine VW.istore (pc' := 41) d_Model_costOf_39 rfl rfl ?_
        refine VW.lload_n (pc' := 42) d_Model_costOf_41 rfl rfl ?_
        refine VW.aload_n (pc' := 43) d_Model_costOf_42 rfl rfl ?_
        refine VW.gP (ci := 11) (T := T11) (N := 94) (k := 87) (k' := 87) (pc' := 46) d_Model_costOf_43 rfl lk_Model_215 in11 rfl rfl rfl rfl (hM.k rfl) (hM.p (r := some 287) 87 rfl rfl) ?_
        refine VW.iload (pc' := 48) d_Model_costOf_46 rfl rfl ?_
        refine VW.lld (pc' := 49) d_Model_costOf_48 rfl (hM.k rfl) (by omega) (by omega) (by first | exact h84 | rfl) ?_
        refine VW.lmul (pc' := 50) d_Model_costOf_49 rfl ((by rw [hr2]; constructor <;> omega)) ?_
        refine VW.lstore_n (pc' := 51) d_Model_costOf_50 rfl rfl ?_
        refine VW.iconst (pc' := 52) d_Model_costOf_51 rfl (by decide) ?_
        refine VW.istore (pc' := 54) d_Model_costOf_52 rfl rfl ?_
        refine VW.pick [0, 1, 2, 3, 5, 7, 8, 9, 10] ?_
        first | exact j0 | (rw [hr2]; exact j0)
  have l := loop (n - 1) 0 (by omega)
  have d0 : 0 ≤ x % 4 ∧ x % 4 < 4 := by omega
  have b2 := iand3 (a := x) hx.1 (by omega)
  have b3 := ishl1 (b := x % 4) d0.1 (by omega)
  have p2 := pw4 d0
  have l2 : VW m_Model_costOf false (rmv 2 47) (ex K P J I (.inl (some (vJ (mCost J I q x n m (n - 1)).2.1)))) K P J I 0 0 22 [(0, vR (some 100)), (1, vI q), (2, vI x), (3, vJ (J 287 (x % 4))), (5, vJ 0), (7, vI (2 ^ (x % 4).toNat)), (8, vI 1)] [] := l
  clear l loop hV hS
  refine VW.aload_n (pc' := 1) d_Model_costOf_0 rfl rfl ?_
  refine VW.gP (ci := 11) (T := T11) (N := 94) (k := 87) (k' := 87) (pc' := 4) d_Model_costOf_1 rfl lk_Model_215 in11 rfl rfl rfl rfl (hM.k rfl) (hM.p (r := some 287) 87 rfl rfl) ?_
  refine VW.iload_n (pc' := 5) d_Model_costOf_4 rfl rfl ?_
  refine VW.iconst (pc' := 6) d_Model_costOf_5 rfl (by decide) ?_
  refine VW.iand (pc' := 7) (z := x % 4) d_Model_costOf_6 rfl (⟨by omega, by omega⟩) (b2) ?_
  refine VW.lld (pc' := 8) d_Model_costOf_7 rfl (hM.k rfl) (by omega) (by omega) (rfl) ?_
  refine VW.lstore_n (pc' := 9) d_Model_costOf_8 rfl rfl ?_
  refine VW.lconst (pc' := 10) (z := 0) d_Model_costOf_9 rfl (by decide) (by decide) ?_
  refine VW.lstore (pc' := 12) d_Model_costOf_10 rfl rfl ?_
  refine VW.iconst (pc' := 13) d_Model_costOf_12 rfl (by decide) ?_
  refine VW.iload_n (pc' := 14) d_Model_costOf_13 rfl rfl ?_
  refine VW.iconst (pc' := 15) d_Model_costOf_14 rfl (by decide) ?_
  refine VW.iand (pc' := 16) (z := x % 4) d_Model_costOf_15 rfl (⟨by omega, by omega⟩) (b2) ?_
  refine VW.ishl (pc' := 17) (z := 2 ^ (x % 4).toNat) d_Model_costOf_16 rfl (⟨by omega, by omega⟩) (b3) ?_
  refine VW.istore (pc' := 19) d_Model_costOf_17 rfl rfl ?_
  refine VW.iconst (pc' := 20) d_Model_costOf_19 rfl (by decide) ?_
  refine VW.istore (pc' := 22) d_Model_costOf_20 rfl rfl ?_
  refine VW.pick [0, 1, 2, 3, 5, 7, 8] ?_
  exact l2
end
