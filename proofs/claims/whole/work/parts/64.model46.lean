section
variable {K : KT} {P : PT} {J I : IT} {Q : PQ}
/-- how many values differ in a column of the block -/
def mVals (I : IT) (q c : Int) : Int := if I 256 (12 * (q + 1) + I 285 (mLeaf I c (I 100 84).toNat)) = 0 then I 292 (4 * I 257 (12 * (q + 1) + I 285 (mLeaf I c (I 100 84).toNat)) + c - I 286 (mLeaf I c (I 100 84).toNat)) else 10
/-- a column of the block has its place -/
def mVlOK (I : IT) (q c : Int) : Prop := (0 ≤ c ∧ c ≤ 100) ∧ (0 ≤ I 285 (mLeaf I c (I 100 84).toNat) ∧ I 285 (mLeaf I c (I 100 84).toNat) < 12) ∧ (I 256 (12 * (q + 1) + I 285 (mLeaf I c (I 100 84).toNat)) = 0 → (0 ≤ I 257 (12 * (q + 1) + I 285 (mLeaf I c (I 100 84).toNat)) ∧ I 257 (12 * (q + 1) + I 285 (mLeaf I c (I 100 84).toNat)) < 6) ∧ 0 ≤ I 286 (mLeaf I c (I 100 84).toNat) ∧ I 286 (mLeaf I c (I 100 84).toNat) ≤ c ∧ c - I 286 (mLeaf I c (I 100 84).toNat) < 4)
theorem mVals_rg {q c : Int} (h : ∀ k, 0 ≤ I 292 k ∧ I 292 k ≤ 8) : 0 ≤ mVals I q c ∧ mVals I q c ≤ 10 := by
  unfold mVals
  split
  · have := h (4 * I 257 (12 * (q + 1) + I 285 (mLeaf I c (I 100 84).toNat)) + c - I 286 (mLeaf I c (I 100 84).toNat)); omega
  · decide
theorem sp_Model_valuesOf {q c : Int} (hM : MW K P) (hq : 0 ≤ q ∧ q < 20) (h0 : 0 ≤ I 100 84 ∧ I 100 84 ≤ 4) (hv : mVlOK I q c) : Sp m_Model_valuesOf false (rmv 1 23) (ex K P J I (.inl (some (vI (mVals I q c))))) K P J I [vR (some 100), vI q, vI c] := by
  refine Sp.ofV (by decide) (Or.inr rfl) rfl ?_
  obtain ⟨hc, h1, h2⟩ := hv
  have lr := mLeaf_rg (I := I) c (I 100 84).toNat
  have l4 : mLeaf I c (I 100 84).toNat < 4 := by
    rcases lr.2 with z | z
    · omega
    · rw [z]; show (0 : Int) < 4; decide
  unfold mVals
  refine VW.aload_n (pc' := 1) d_Model_valuesOf_0 rfl rfl ?_
  refine VW.iload_n (pc' := 2) d_Model_valuesOf_1 rfl rfl ?_
  refine VW.cV (ci := 11) (T := T11) (N := 94) (pc' := 5) d_Model_valuesOf_2 rfl mv_Model_leafOf lk_Model_517 rfl (hM.k rfl) rfl rfl rfl (Nat.le_refl _) (Nat.le_refl _) (sp_Model_leafOf hM h0) rfl rfl ?_
  refine VW.istore_n (pc' := 6) d_Model_valuesOf_5 rfl rfl ?_
  refine VW.iload_n (pc' := 7) d_Model_valuesOf_6 rfl rfl ?_
  refine VW.cS (pc' := 10) d_Model_valuesOf_7 rfl ms_Model_base lk_Model_431 rfl rfl rfl (Nat.le_refl _) (Nat.le_refl _) (sp_Model_base (by omega)) rfl rfl ?_
  refine VW.aload_n (pc' := 11) d_Model_valuesOf_10 rfl rfl ?_
  refine VW.gP (ci := 11) (T := T11) (N := 94) (k := 85) (k' := 85) (pc' := 14) d_Model_valuesOf_11 rfl lk_Model_209 in11 rfl rfl rfl rfl (hM.k rfl) (hM.p (r := some 285) 85 rfl rfl) ?_
  refine VW.iload_n (pc' := 15) d_Model_valuesOf_14 rfl rfl ?_
  refine VW.ild (pc' := 16) d_Model_valuesOf_15 rfl (hM.k rfl) (by omega) (by omega) (rfl) ?_
  refine VW.iadd (pc' := 17) d_Model_valuesOf_16 rfl (by omega) ?_
  refine VW.istore (pc' := 19) d_Model_valuesOf_17 rfl rfl ?_
  refine VW.aload_n (pc' := 20) d_Model_valuesOf_19 rfl rfl ?_
  refine VW.gP (ci := 11) (T := T11) (N := 94) (k := 56) (k' := 56) (pc' := 23) d_Model_valuesOf_20 rfl lk_Model_144 in11 rfl rfl rfl rfl (hM.k rfl) (hM.p (r := some 256) 56 rfl rfl) ?_
  refine VW.iload (pc' := 25) d_Model_valuesOf_23 rfl rfl ?_
  refine VW.ild (pc' := 26) d_Model_valuesOf_25 rfl (hM.k rfl) (by omega) (by omega) (rfl) ?_
  refine VW.if_ne (tgt := 55) (pc' := 29) d_Model_valuesOf_26 rfl rfl (fun c26 => ?_) (fun c26 => ?_)
  · try have e26 := bIn c26
    refine VW.bipush (pc' := 57) d_Model_valuesOf_55 rfl (by decide) ?_
    exact VW.iret d_Model_valuesOf_57 rfl rfl (Nat.zero_le _) (Nat.zero_le _) (by first | exact ex_v (if_pos c26) | exact ex_v (if_neg c26))
  · try have e26 := bIe c26
    have h3 := h2 c26
    refine VW.aload_n (pc' := 30) d_Model_valuesOf_29 rfl rfl ?_
    refine VW.gP (ci := 11) (T := T11) (N := 94) (k := 92) (k' := 92) (pc' := 33) d_Model_valuesOf_30 rfl lk_Model_228 in11 rfl rfl rfl rfl (hM.k rfl) (hM.p (r := some 292) 92 rfl rfl) ?_
    refine VW.iconst (pc' := 34) d_Model_valuesOf_33 rfl (by decide) ?_
    refine VW.aload_n (pc' := 35) d_Model_valuesOf_34 rfl rfl ?_
    refine VW.gP (ci := 11) (T := T11) (N := 94) (k := 57) (k' := 57) (pc' := 38) d_Model_valuesOf_35 rfl lk_Model_147 in11 rfl rfl rfl rfl (hM.k rfl) (hM.p (r := some 257) 57 rfl rfl) ?_
    refine VW.iload (pc' := 40) d_Model_valuesOf_38 rfl rfl ?_
    refine VW.ild (pc' := 41) d_Model_valuesOf_40 rfl (hM.k rfl) (by omega) (by omega) (rfl) ?_
    refine VW.imul (pc' := 42) d_Model_valuesOf_41 rfl (by omega) ?_
    refine VW.iload_n (pc' := 43) d_Model_valuesOf_42 rfl rfl ?_
    refine VW.iadd (pc' := 44) d_Model_valuesOf_43 rfl (by omega) ?_
    refine VW.aload_n (pc' := 45) d_Model_valuesOf_44 rfl rfl ?_
    refine VW.gP (ci := 11) (T := T11) (N := 94) (k := 86) (k' := 86) (pc' := 48) d_Model_valuesOf_45 rfl lk_Model_212 in11 rfl rfl rfl rfl (hM.k rfl) (hM.p (r := some 286) 86 rfl rfl) ?_
    refine VW.iload_n (pc' := 49) d_Model_valuesOf_48 rfl rfl ?_
    refine VW.ild (pc' := 50) d_Model_valuesOf_49 rfl (hM.k rfl) (by omega) (by omega) (rfl) ?_
    refine VW.isub (pc' := 51) d_Model_valuesOf_50 rfl (by omega) ?_
    refine VW.ild (pc' := 52) d_Model_valuesOf_51 rfl (hM.k rfl) (by omega) (by omega) (rfl) ?_
    refine VW.goto (pc' := 57) d_Model_valuesOf_52 rfl ?_
    exact VW.iret d_Model_valuesOf_57 rfl rfl (Nat.zero_le _) (Nat.zero_le _) (by first | exact ex_v (if_pos c26) | exact ex_v (if_neg c26))
theorem orD : ∀ (k : Fin 3) (o : Fin 16) (d : Fin 4), Int32.ofInt ((o.val : Int) * 4 ^ (k.val + 1)) ||| Int32.ofInt ((d.val : Int) * 4 ^ k.val) = Int32.ofInt ((o.val : Int) * 4 ^ (k.val + 1) + (d.val : Int) * 4 ^ k.val) := by decide +kernel
theorem shD : ∀ (k : Fin 3) (d : Fin 4), Int32.ofInt (d.val : Int) <<< (Int32.ofInt (2 * (k.val : Int)) &&& 31) = Int32.ofInt ((d.val : Int) * 4 ^ k.val) := by decide +kernel
theorem orD2 {k : Nat} {o d : Int} (hk : k < 3) (ho : 0 ≤ o ∧ o < 16) (hd : 0 ≤ d ∧ d < 4) : Int32.ofInt (o * 4 ^ (k + 1)) ||| Int32.ofInt (d * 4 ^ k) = Int32.ofInt (o * 4 ^ (k + 1) + d * 4 ^ k) := by
  have := orD ⟨k, hk⟩ ⟨o.toNat, by omega⟩ ⟨d.toNat, by omega⟩
  rw [show ((⟨o.toNat, by omega⟩ : Fin 16).val : Int) = o by show (o.toNat : Int) = o; omega, show ((⟨d.toNat, by omega⟩ : Fin 4).val : Int) = d by show (d.toNat : Int) = d; omega] at this
  exact this
theorem shD2 {k : Nat} {d : Int} (hk : k < 3) (hd : 0 ≤ d ∧ d < 4) : Int32.ofInt d <<< (Int32.ofInt (2 * (k : Int)) &&& 31) = Int32.ofInt (d * 4 ^ k) := by
  have := shD ⟨k, hk⟩ ⟨d.toNat, by omega⟩
  rw [show ((⟨d.toNat, by omega⟩ : Fin 4).val : Int) = d by show (d.toNat : Int) = d; omega] at this
  exact this
theorem p4 {k : Nat} (hk : k < 3) : 1 ≤ (4 : Int) ^ k ∧ (4 : Int) ^ k ≤ 16 := by
  have : ∀ k : Fin 3, 1 ≤ (4 : Int) ^ k.val ∧ (4 : Int) ^ k.val ≤ 16 := by decide
  exact this ⟨k, hk⟩

/-- the digits of a number that are left, put where they belong -/
def ordR : Nat → Int → Int → Int
  | 0, o, _ => o
  | k + 1, o, r => ordR k (o + r % 4 * 4 ^ k) (r / 4)
theorem oa_step {x o r a j : Int} {n m : Nat} (hM : MW K P) (hm : m < 3) (hj : j = m) (hr : 0 ≤ r ∧ r ≤ 1000) (ho : o = a * 4 ^ (m + 1)) (ha : 0 ≤ a ∧ a < 16) (hQ : VW m_Model_orderAt false (rmv 0 0) (ex K P J I (.inl (some (vI ((ordR n 0 x)))))) K P J I 0 0 12 [(0, vR (some 100)), (1, vI x), (2, vI (o + r % 4 * 4 ^ m)), (3, vI (r / 4)), (4, vI (j + -1))] []) : VW m_Model_orderAt false (rmv 0 0) (ex K P J I (.inl (some (vI ((ordR n 0 x)))))) K P J I 0 0 12 [(0, vR (some 100)), (1, vI x), (2, vI o), (3, vI r), (4, vI j)] [] := by
  subst hj
  have d0 : 0 ≤ r % 4 ∧ r % 4 < 4 := by omega
  have pp := p4 hm
  have dd0 := mulNN (w := r % 4) (k := (4 : Int) ^ m) (by omega) (by omega)
  have dd1 := mulUp (w := r % 4) (k := (4 : Int) ^ m) (W := 3) (n := 16) (by omega) (by omega) (by omega) (by omega)
  have e4 : (4 : Int) ^ (m + 1) = 4 ^ m * 4 := Int.pow_succ 4 m
  have o0 : 0 ≤ o := by rw [ho]; exact mulNN ha.1 (by omega)
  have o1 : o ≤ 15 * 64 := by rw [ho]; exact mulUp ha.1 (by omega) (by omega) (by omega)
  have i3 := iand3 (a := r) hr.1 (by omega)
  have s2 := ishrN (a := r) (m := 2) ⟨by omega, by omega⟩ (by decide)
  have sh := shD2 (k := m) (d := r % 4) hm d0
  have oo := orD2 (k := m) hm ha d0
  rw [← ho] at oo
  clear ho e4
  refine VW.iload (pc' := 14) d_Model_orderAt_12 rfl rfl ?_
  refine VW.if_lt (tgt := 38) (pc' := 17) d_Model_orderAt_14 rfl rfl (fun c14 => ?_) (fun c14 => ?_)
  · exfalso; omega
  · refine VW.iload_n (pc' := 18) d_Model_orderAt_17 rfl rfl ?_
    refine VW.iload_n (pc' := 19) d_Model_orderAt_18 rfl rfl ?_
    refine VW.iconst (pc' := 20) d_Model_orderAt_19 rfl (by decide) ?_
    refine VW.iand (pc' := 21) (z := r % 4) d_Model_orderAt_20 rfl (⟨by omega, by omega⟩) (i3) ?_
    refine VW.iconst (pc' := 22) d_Model_orderAt_21 rfl (by decide) ?_
    refine VW.iload (pc' := 24) d_Model_orderAt_22 rfl rfl ?_
    refine VW.imul (pc' := 25) d_Model_orderAt_24 rfl (by omega) ?_
    refine VW.ishl (pc' := 26) (z := r % 4 * 4 ^ m) d_Model_orderAt_25 rfl (⟨by omega, by omega⟩) (sh) ?_
    refine VW.ior (pc' := 27) (z := o + r % 4 * 4 ^ m) d_Model_orderAt_26 rfl (⟨by omega, by omega⟩) (oo) ?_
    refine VW.istore_n (pc' := 28) d_Model_orderAt_27 rfl rfl ?_
    refine VW.iload_n (pc' := 29) d_Model_orderAt_28 rfl rfl ?_
    refine VW.iconst (pc' := 30) d_Model_orderAt_29 rfl (by decide) ?_
    refine VW.ishr (pc' := 31) (z := r / 4) d_Model_orderAt_30 rfl (⟨by omega, by omega⟩) (s2) ?_
    refine VW.istore_n (pc' := 32) d_Model_orderAt_31 rfl rfl ?_
    refine VW.iinc (pc' := 35) d_Model_orderAt_32 rfl rfl rfl (by omega) ?_
    refine VW.goto (pc' := 12) d_Model_orderAt_35 rfl ?_
    refine VW.nrm ?_
    exact hQ
theorem sp_Model_orderAt {x : Int} {n : Nat} (hM : MW K P) (h0 : I 100 84 = n) (hn : n = 2 ∨ n = 3) (hx : 0 ≤ x ∧ x ≤ 1000) : Sp m_Model_orderAt false (rmv 0 0) (ex K P J I (.inl (some (vI (ordR n 0 x))))) K P J I [vR (some 100), vI x] := by
  refine Sp.ofV (by decide) (Or.inr rfl) rfl ?_
  have e0 : ∀ o r, ordR 0 o r = o := fun o r => rfl
  have fin : ∀ (o r j : Int), j = -1 → o = ordR n 0 x → VW m_Model_orderAt false (rmv 0 0) (ex K P J I (.inl (some (vI ((ordR n 0 x)))))) K P J I 0 0 12 [(0, vR (some 100)), (1, vI x), (2, vI o), (3, vI r), (4, vI j)] [] := by
    intro o r j hj ho
    subst hj
    refine VW.iload (pc' := 14) d_Model_orderAt_12 rfl rfl ?_
    refine VW.if_lt (tgt := 38) (pc' := 17) d_Model_orderAt_14 rfl rfl (fun c14 => ?_) (fun c14 => ?_)
    · refine VW.iload_n (pc' := 39) d_Model_orderAt_38 rfl rfl ?_
      exact VW.iret d_Model_orderAt_39 rfl rfl (Nat.zero_le _) (Nat.zero_le _) (by rw [ho]; exact ex_rf)
    · exfalso; omega
  have st : VW m_Model_orderAt false (rmv 0 0) (ex K P J I (.inl (some (vI ((ordR n 0 x)))))) K P J I 0 0 12 [(0, vR (some 100)), (1, vI x), (2, vI 0), (3, vI x), (4, vI ((n : Int) - 1))] [] := by
    rcases hn with e | e
    · subst e
      refine oa_step (m := 1) (a := 0) hM (by decide) rfl (by omega) (by omega) (by decide) ?_
      refine oa_step (m := 0) (a := x % 4) hM (by decide) (by decide) (by omega) (by omega) (by omega) ?_
      exact fin _ _ _ (by decide) rfl
    · subst e
      refine oa_step (m := 2) (a := 0) hM (by decide) rfl (by omega) (by omega) (by decide) ?_
      refine oa_step (m := 1) (a := x % 4) hM (by decide) (by decide) (by omega) (by omega) (by omega) ?_
      refine oa_step (m := 0) (a := x % 4 * 4 + x / 4 % 4) hM (by decide) (by decide) (by omega) (by omega) (by omega) ?_
      exact fin _ _ _ (by decide) rfl
  clear fin
  refine VW.iconst (pc' := 1) d_Model_orderAt_0 rfl (by decide) ?_
  refine VW.istore_n (pc' := 2) d_Model_orderAt_1 rfl rfl ?_
  refine VW.iload_n (pc' := 3) d_Model_orderAt_2 rfl rfl ?_
  refine VW.istore_n (pc' := 4) d_Model_orderAt_3 rfl rfl ?_
  refine VW.aload_n (pc' := 5) d_Model_orderAt_4 rfl rfl ?_
  refine VW.gI (ci := 11) (T := T11) (N := 94) (k := 84) (k' := 84) (pc' := 8) d_Model_orderAt_5 rfl lk_Model_510 in11 rfl rfl rfl rfl (hM.k rfl) (by first | exact h0 | rfl) ?_
  refine VW.iconst (pc' := 9) d_Model_orderAt_8 rfl (by decide) ?_
  refine VW.isub (pc' := 10) d_Model_orderAt_9 rfl (by omega) ?_
  refine VW.istore (pc' := 12) d_Model_orderAt_10 rfl rfl ?_
  refine VW.nrm ?_
  exact st
theorem orB16 : ∀ (a : Fin 16) (k : Fin 4), 0 ≤ orB (a.val : Int) (k.val : Int) ∧ orB (a.val : Int) (k.val : Int) < 16 := by decide +kernel
theorem orB_rg {a k : Int} (h : 0 ≤ a ∧ a < 16) (hk : 0 ≤ k ∧ k < 4) : 0 ≤ orB a k ∧ orB a k < 16 := by
  have := orB16 ⟨a.toNat, by omega⟩ ⟨k.toNat, by omega⟩
  rw [show ((⟨a.toNat, by omega⟩ : Fin 16).val : Int) = a by show (a.toNat : Int) = a; omega, show ((⟨k.toNat, by omega⟩ : Fin 4).val : Int) = k by show (k.toNat : Int) = k; omega] at this
  exact this
def digO (x : Int) (k : Nat) : Int := x / 2 ^ (2 * k) % 4
theorem digO_rg (x : Int) (k : Nat) : 0 ≤ digO x k ∧ digO x k < 4 := by unfold digO; omega
/-- the leaves that an order names, as bits -/
def setN (x : Int) : Nat → Int
  | 0 => 0
  | k + 1 => orB (setN x k) (digO x k)
theorem setN_rg (x : Int) : ∀ k : Nat, 0 ≤ setN x k ∧ setN x k < 16 := by
  intro k
  induction k with
  | zero => exact ⟨Int.le_refl _, by show (0 : Int) < 16; decide⟩
  | succ k ih => exact orB_rg ih (digO_rg x k)
theorem pw4 {d : Int} (h : 0 ≤ d ∧ d < 4) : 1 ≤ (2 : Int) ^ d.toNat ∧ (2 : Int) ^ d.toNat ≤ 8 := by
  have : ∀ k : Fin 4, 1 ≤ (2 : Int) ^ k.val ∧ (2 : Int) ^ k.val ≤ 8 := by decide
  exact this ⟨d.toNat, by omega⟩
theorem digB {x : Int} {k : Nat} (hx : 0 ≤ x ∧ x ≤ 2147483647) (hk : k ≤ 3) : Int32.ofInt x >>> (Int32.ofInt (2 * (k : Int)) &&& 31) = Int32.ofInt (x / 2 ^ (2 * k)) := by
  have := ishrN (a := x) (m := 2 * k) ⟨by omega, by omega⟩ (by omega)
  rw [show ((2 * k : Nat) : Int) = 2 * (k : Int) by omega] at this
  exact this
theorem digD {x : Int} {k : Nat} (hx : 0 ≤ x ∧ x ≤ 2147483647) : 0 ≤ x / 2 ^ (2 * k) ∧ x / 2 ^ (2 * k) ≤ 2147483647 := ⟨divP hx.1, (divN (a := x) ⟨by omega, hx.2⟩).2⟩
theorem sp_Model_isOrder {x : Int} {n : Nat} (hM : MW K P) (h0 : I 100 84 = n) (hn : n ≤ 3) (hx : 0 ≤ x ∧ x ≤ 1000) : Sp m_Model_isOrder false (rmv 0 0) (ex K P J I (.inl (some (vI (bI (setN x n = 2 ^ n - 1)))))) K P J I [vR (some 100), vI x] := by
  refine Sp.ofV (by decide) (Or.inr rfl) rfl ?_
  have pn : 1 ≤ (2 : Int) ^ n ∧ (2 : Int) ^ n ≤ 8 := by have := pw4 (d := (n : Int)) (by omega); rw [Int.toNat_natCast] at this; exact this
  have loop : ∀ (l k : Nat), k + l = n → VW m_Model_isOrder false (rmv 0 0) (ex K P J I (.inl (some (vI (bI (setN x n = 2 ^ n - 1)))))) K P J I 0 0 4 [(0, vR (some 100)), (1, vI x), (2, vI (setN x k)), (3, vI (k : Int))] [] := by
    intro l
    induction l with
    | zero =>
      intro k hk
      have ek : k = n := by omega
      rw [ek]
      have sr := setN_rg x n
      have sl := ishl1 (b := (n : Int)) (by omega) (by omega)
      rw [Int.toNat_natCast] at sl
      refine VW.iload_n (pc' := 5) d_Model_isOrder_4 rfl rfl ?_
      refine VW.aload_n (pc' := 6) d_Model_isOrder_5 rfl rfl ?_
      refine VW.gI (ci := 11) (T := T11) (N := 94) (k := 84) (k' := 84) (pc' := 9) d_Model_isOrder_6 rfl lk_Model_510 in11 rfl rfl rfl rfl (hM.k rfl) (by first | exact h0 | rfl) ?_
      refine VW.icmp_ge (tgt := 30) (pc' := 12) d_Model_isOrder_9 rfl rfl (fun c9 => ?_) (fun c9 => ?_)
      · refine VW.iload_n (pc' := 31) d_Model_isOrder_30 rfl rfl ?_
        refine VW.iconst (pc' := 32) d_Model_isOrder_31 rfl (by decide) ?_
        refine VW.aload_n (pc' := 33) d_Model_isOrder_32 rfl rfl ?_
        refine VW.gI (ci := 11) (T := T11) (N := 94) (k := 84) (k' := 84) (pc' := 36) d_Model_isOrder_33 rfl lk_Model_510 in11 rfl rfl rfl rfl (hM.k rfl) (by first | exact h0 | rfl) ?_
        refine VW.ishl (pc' := 37) (z := 2 ^ n) d_Model_isOrder_36 rfl (⟨by omega, by omega⟩) (sl) ?_
        refine VW.iconst (pc' := 38) d_Model_isOrder_37 rfl (by decide) ?_
        refine VW.isub (pc' := 39) d_Model_isOrder_38 rfl (by omega) ?_
        refine VW.icmp_ne (tgt := 46) (pc' := 42) d_Model_isOrder_39 rfl rfl (fun c39 => ?_) (fun c39 => ?_)
        · refine VW.iconst (pc' := 47) d_Model_isOrder_46 rfl (by decide) ?_
          exact VW.iret d_Model_isOrder_47 rfl rfl (Nat.zero_le _) (Nat.zero_le _) (by first | exact ex_v (bI1 c39) | exact ex_v (bI0 c39))
        · refine VW.iconst (pc' := 43) d_Model_isOrder_42 rfl (by decide) ?_
          refine VW.goto (pc' := 47) d_Model_isOrder_43 rfl ?_
          exact VW.iret d_Model_isOrder_47 rfl rfl (Nat.zero_le _) (Nat.zero_le _) (by first | exact ex_v (bI1 c39) | exact ex_v (bI0 c39))
      · exfalso; omega
    | succ l ih =>
      intro k hk
      have ih1 := ih (k + 1) (by omega)
      have ek : ((k + 1 : Nat) : Int) = (k : Int) + 1 := by omega
      rw [ek] at ih1
      have sr := setN_rg x k
      have dg := digO_rg x k
      have sr2 := orB_rg sr dg
      have p2 := pw4 dg
      have d1 := digD (k := k) (x := x) (by omega)
      have b1 := digB (k := k) (x := x) (by omega) (by omega)
      have b2 := iand3 d1.1 d1.2
      have b3 := ishl1 (b := digO x k) dg.1 (by omega)
      have b4 := ior64 (a := setN x k) (k := digO x k) sr.1 (by omega) dg.1 (by omega)
      clear ih
      refine VW.iload_n (pc' := 5) d_Model_isOrder_4 rfl rfl ?_
      refine VW.aload_n (pc' := 6) d_Model_isOrder_5 rfl rfl ?_
      refine VW.gI (ci := 11) (T := T11) (N := 94) (k := 84) (k' := 84) (pc' := 9) d_Model_isOrder_6 rfl lk_Model_510 in11 rfl rfl rfl rfl (hM.k rfl) (by first | exact h0 | rfl) ?_
      refine VW.icmp_ge (tgt := 30) (pc' := 12) d_Model_isOrder_9 rfl rfl (fun c9 => ?_) (fun c9 => ?_)
      · exfalso; omega
      · refine VW.iload_n (pc' := 13) d_Model_isOrder_12 rfl rfl ?_
        refine VW.iconst (pc' := 14) d_Model_isOrder_13 rfl (by decide) ?_
        refine VW.iload_n (pc' := 15) d_Model_isOrder_14 rfl rfl ?_
        refine VW.iconst (pc' := 16) d_Model_isOrder_15 rfl (by decide) ?_
        refine VW.iload_n (pc' := 17) d_Model_isOrder_16 rfl rfl ?_
        refine VW.imul (pc' := 18) d_Model_isOrder_17 rfl (by omega) ?_
        refine VW.ishr (pc' := 19) (z := x / 2 ^ (2 * k)) d_Model_isOrder_18 rfl (⟨by omega, by omega⟩) (b1) ?_
        refine VW.iconst (pc' := 20) d_Model_isOrder_19 rfl (by decide) ?_
        refine VW.iand (pc' := 21) (z := digO x k) d_Model_isOrder_20 rfl (⟨by omega, by omega⟩) (b2) ?_
        refine VW.ishl (pc' := 22) (z := 2 ^ (digO x k).toNat) d_Model_isOrder_21 rfl (⟨by omega, by omega⟩) (b3) ?_
        refine VW.ior (pc' := 23) (z := orB (setN x k) (digO x k)) d_Model_isOrder_22 rfl (⟨by omega, by omega⟩) (b4) ?_
        refine VW.istore_n (pc' := 24) d_Model_isOrder_23 rfl rfl ?_
        refine VW.iinc (pc' := 27) d_Model_isOrder_24 rfl rfl rfl (by omega) ?_
        refine VW.goto (pc' := 4) d_Model_isOrder_27 rfl ?_
        refine VW.nrm ?_
        exact ih1
  have l := loop n 0 (by omega)
  clear loop
  refine VW.iconst (pc' := 1) d_Model_isOrder_0 rfl (by decide) ?_
  refine VW.istore_n (pc' := 2) d_Model_isOrder_1 rfl rfl ?_
  refine VW.iconst (pc' := 3) d_Model_isOrder_2 rfl (by decide) ?_
  refine VW.istore_n (pc' := 4) d_Model_isOrder_3 rfl rfl ?_
  refine VW.nrm ?_
  exact l
end
