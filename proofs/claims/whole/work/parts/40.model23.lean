section
variable {K : KT} {P : PT} {J I : IT}
/-- the numbers that queries are built from -/
def QB (I : IT) : Prop := (0 ≤ I 100 51 ∧ I 100 51 ≤ 6) ∧ (0 ≤ I 100 52 ∧ I 100 52 ≤ 12) ∧ (0 ≤ I 100 55 ∧ I 100 55 ≤ 3) ∧ (∀ k, 0 ≤ I 254 k ∧ I 254 k ≤ 10) ∧ (0 ≤ I 100 61 ∧ I 100 61 ≤ 20) ∧ (∀ q, 0 ≤ I 262 q ∧ I 262 q ≤ 12)
theorem QB.tr {I : IT} (h : QB I) : 0 ≤ I 100 51 ∧ I 100 51 ≤ 6 := h.1
theorem QB.op {I : IT} (h : QB I) : 0 ≤ I 100 52 ∧ I 100 52 ≤ 12 := h.2.1
theorem QB.sc {I : IT} (h : QB I) : 0 ≤ I 100 55 ∧ I 100 55 ≤ 3 := h.2.2.1
theorem QB.wd {I : IT} (h : QB I) : ∀ k, 0 ≤ I 254 k ∧ I 254 k ≤ 10 := h.2.2.2.1
theorem QB.qs {I : IT} (h : QB I) : 0 ≤ I 100 61 ∧ I 100 61 ≤ 20 := h.2.2.2.2.1
theorem QB.sz {I : IT} (h : QB I) : ∀ q, 0 ≤ I 262 q ∧ I 262 q ≤ 12 := h.2.2.2.2.2
theorem sp_Model_isFull (hM : MW K P) : Sp m_Model_isFull false (rmv 0 0) (ex K P J I (.inl (some (vI (bI (I 100 52 = 12)))))) K P J I [vR (some 100)] := by
  refine Sp.ofV (by decide) (Or.inr rfl) rfl ?_
  refine VW.aload_n (pc' := 1) d_Model_isFull_0 rfl rfl ?_
  refine VW.gI (ci := 11) (T := T11) (N := 94) (k := 52) (k' := 52) (pc' := 4) d_Model_isFull_1 rfl lk_Model_403 in11 rfl rfl rfl rfl (hM.k rfl) (by first | assumption | (simp [up2] <;> rfl) | rfl) ?_
  refine VW.bipush (pc' := 6) d_Model_isFull_4 rfl (by decide) ?_
  refine VW.icmp_ne (tgt := 13) (pc' := 9) d_Model_isFull_6 rfl rfl (fun c6 => ?_) (fun c6 => ?_)
  · refine VW.iconst (pc' := 14) d_Model_isFull_13 rfl (by decide) ?_
    exact VW.iret d_Model_isFull_14 rfl rfl (Nat.zero_le _) (Nat.zero_le _) (by first | (rw [bI1 c6]; exact ex_rf) | (rw [bI0 c6]; exact ex_rf))
  · refine VW.iconst (pc' := 10) d_Model_isFull_9 rfl (by decide) ?_
    refine VW.goto (pc' := 14) d_Model_isFull_10 rfl ?_
    exact VW.iret d_Model_isFull_14 rfl rfl (Nat.zero_le _) (Nat.zero_le _) (by first | (rw [bI1 c6]; exact ex_rf) | (rw [bI0 c6]; exact ex_rf))
def mOfLast (I : IT) (c : Int) : Prop := 0 < I 100 51 ∧ 0 ≤ c ∧ c ≤ I 254 (I 100 51 - 1) - 1
theorem sp_Model_isOfLast {c : Int} (hM : MW K P) (hq : QB I) : Sp m_Model_isOfLast false (rmv 1 22) (ex K P J I (.inl (some (vI (bI (mOfLast I c)))))) K P J I [vR (some 100), vI c] := by
  refine Sp.ofV (by decide) (Or.inr rfl) rfl ?_
  have b0 := hq.tr
  have b1 := hq.wd (I 100 51 - 1)
  refine VW.aload_n (pc' := 1) d_Model_isOfLast_0 rfl rfl ?_
  refine VW.gI (ci := 11) (T := T11) (N := 94) (k := 51) (k' := 51) (pc' := 4) d_Model_isOfLast_1 rfl lk_Model_406 in11 rfl rfl rfl rfl (hM.k rfl) (by first | assumption | (simp [up2] <;> rfl) | rfl) ?_
  refine VW.if_le (tgt := 32) (pc' := 7) d_Model_isOfLast_4 rfl rfl (fun c4 => ?_) (fun c4 => ?_)
  · refine VW.iconst (pc' := 33) d_Model_isOfLast_32 rfl (by decide) ?_
    exact VW.iret d_Model_isOfLast_33 rfl rfl (Nat.zero_le _) (Nat.zero_le _) (by first | exact ex_v (bI1 ⟨by omega, bIn c25⟩) | exact ex_v (bI0 (fun z => bIe c25 z.2)) | exact ex_v (bI0 (fun z => by have := z.1; omega)))
  · refine VW.iload_n (pc' := 8) d_Model_isOfLast_7 rfl rfl ?_
    refine VW.iconst (pc' := 9) d_Model_isOfLast_8 rfl (by decide) ?_
    refine VW.aload_n (pc' := 10) d_Model_isOfLast_9 rfl rfl ?_
    refine VW.gP (ci := 11) (T := T11) (N := 94) (k := 54) (k' := 54) (pc' := 13) d_Model_isOfLast_10 rfl lk_Model_141 in11 rfl rfl rfl rfl (hM.k rfl) (hM.p (r := some 254) 54 rfl rfl) ?_
    refine VW.aload_n (pc' := 14) d_Model_isOfLast_13 rfl rfl ?_
    refine VW.gI (ci := 11) (T := T11) (N := 94) (k := 51) (k' := 51) (pc' := 17) d_Model_isOfLast_14 rfl lk_Model_406 in11 rfl rfl rfl rfl (hM.k rfl) (by first | assumption | (simp [up2] <;> rfl) | rfl) ?_
    refine VW.iconst (pc' := 18) d_Model_isOfLast_17 rfl (by decide) ?_
    refine VW.isub (pc' := 19) d_Model_isOfLast_18 rfl (by omega) ?_
    refine VW.ild (pc' := 20) d_Model_isOfLast_19 rfl (hM.k rfl) (by omega) (by omega) (by first | assumption | (simp [up2] <;> rfl) | rfl) ?_
    refine VW.iconst (pc' := 21) d_Model_isOfLast_20 rfl (by decide) ?_
    refine VW.isub (pc' := 22) d_Model_isOfLast_21 rfl (by omega) ?_
    refine VW.cS (pc' := 25) d_Model_isOfLast_22 rfl ms_Model_isIn lk_Model_235 rfl rfl rfl (Nat.le_refl _) (Nat.le_refl _) (sp_Model_isIn) rfl rfl ?_
    refine VW.if_eq (tgt := 32) (pc' := 28) d_Model_isOfLast_25 rfl rfl (fun c25 => ?_) (fun c25 => ?_)
    · try have e25 := bIe c25
      refine VW.iconst (pc' := 33) d_Model_isOfLast_32 rfl (by decide) ?_
      exact VW.iret d_Model_isOfLast_33 rfl rfl (Nat.zero_le _) (Nat.zero_le _) (by first | exact ex_v (bI1 ⟨by omega, bIn c25⟩) | exact ex_v (bI0 (fun z => bIe c25 z.2)) | exact ex_v (bI0 (fun z => by have := z.1; omega)))
    · try have e25 := bIn c25
      refine VW.iconst (pc' := 29) d_Model_isOfLast_28 rfl (by decide) ?_
      refine VW.goto (pc' := 33) d_Model_isOfLast_29 rfl ?_
      exact VW.iret d_Model_isOfLast_33 rfl rfl (Nat.zero_le _) (Nat.zero_le _) (by first | exact ex_v (bI1 ⟨by omega, bIn c25⟩) | exact ex_v (bI0 (fun z => bIe c25 z.2)) | exact ex_v (bI0 (fun z => by have := z.1; omega)))
/-- an operator more -/
def mAdd (I : IT) (op a b c nt : Int) : IT := up2 (up2 (up2 (up2 (up2 (up2 I 256 (I 100 52) op) 257 (I 100 52) a) 258 (I 100 52) b) 259 (I 100 52) c) 260 (I 100 52) nt) 100 52 (I 100 52 + 1)
theorem sp_Model_adds {op a b c nt : Int} (hM : MW K P) (h : 0 ≤ I 100 52 ∧ I 100 52 < 252) (hz : nt = 0 ∨ nt = 1) : Sp m_Model_adds false (rmv 0 0) (ex K P J (mAdd I op a b c nt) (.inl none)) K P J I [vR (some 100), vI op, vI a, vI b, vI c, vI nt] := by
  refine Sp.ofV (by decide) (Or.inr rfl) rfl ?_
  refine VW.aload_n (pc' := 1) d_Model_adds_0 rfl rfl ?_
  refine VW.gP (ci := 11) (T := T11) (N := 94) (k := 56) (k' := 56) (pc' := 4) d_Model_adds_1 rfl lk_Model_144 in11 rfl rfl rfl rfl (hM.k rfl) (hM.p (r := some 256) 56 rfl rfl) ?_
  refine VW.aload_n (pc' := 5) d_Model_adds_4 rfl rfl ?_
  refine VW.gI (ci := 11) (T := T11) (N := 94) (k := 52) (k' := 52) (pc' := 8) d_Model_adds_5 rfl lk_Model_403 in11 rfl rfl rfl rfl (hM.k rfl) (by first | assumption | (simp [up2] <;> rfl) | rfl) ?_
  refine VW.iload_n (pc' := 9) d_Model_adds_8 rfl rfl ?_
  refine VW.iast (pc' := 10) d_Model_adds_9 rfl (hM.k rfl) (by omega) (by omega) ?_
  refine VW.aload_n (pc' := 11) d_Model_adds_10 rfl rfl ?_
  refine VW.gP (ci := 11) (T := T11) (N := 94) (k := 57) (k' := 57) (pc' := 14) d_Model_adds_11 rfl lk_Model_147 in11 rfl rfl rfl rfl (hM.k rfl) (hM.p (r := some 257) 57 rfl rfl) ?_
  refine VW.aload_n (pc' := 15) d_Model_adds_14 rfl rfl ?_
  refine VW.gI (ci := 11) (T := T11) (N := 94) (k := 52) (k' := 52) (pc' := 18) d_Model_adds_15 rfl lk_Model_403 in11 rfl rfl rfl rfl (hM.k rfl) (by first | assumption | (simp [up2] <;> rfl) | rfl) ?_
  refine VW.iload_n (pc' := 19) d_Model_adds_18 rfl rfl ?_
  refine VW.iast (pc' := 20) d_Model_adds_19 rfl (hM.k rfl) (by omega) (by omega) ?_
  refine VW.aload_n (pc' := 21) d_Model_adds_20 rfl rfl ?_
  refine VW.gP (ci := 11) (T := T11) (N := 94) (k := 58) (k' := 58) (pc' := 24) d_Model_adds_21 rfl lk_Model_150 in11 rfl rfl rfl rfl (hM.k rfl) (hM.p (r := some 258) 58 rfl rfl) ?_
  refine VW.aload_n (pc' := 25) d_Model_adds_24 rfl rfl ?_
  refine VW.gI (ci := 11) (T := T11) (N := 94) (k := 52) (k' := 52) (pc' := 28) d_Model_adds_25 rfl lk_Model_403 in11 rfl rfl rfl rfl (hM.k rfl) (by first | assumption | (simp [up2] <;> rfl) | rfl) ?_
  refine VW.iload_n (pc' := 29) d_Model_adds_28 rfl rfl ?_
  refine VW.iast (pc' := 30) d_Model_adds_29 rfl (hM.k rfl) (by omega) (by omega) ?_
  refine VW.aload_n (pc' := 31) d_Model_adds_30 rfl rfl ?_
  refine VW.gP (ci := 11) (T := T11) (N := 94) (k := 59) (k' := 59) (pc' := 34) d_Model_adds_31 rfl lk_Model_153 in11 rfl rfl rfl rfl (hM.k rfl) (hM.p (r := some 259) 59 rfl rfl) ?_
  refine VW.aload_n (pc' := 35) d_Model_adds_34 rfl rfl ?_
  refine VW.gI (ci := 11) (T := T11) (N := 94) (k := 52) (k' := 52) (pc' := 38) d_Model_adds_35 rfl lk_Model_403 in11 rfl rfl rfl rfl (hM.k rfl) (by first | assumption | (simp [up2] <;> rfl) | rfl) ?_
  refine VW.iload (pc' := 40) d_Model_adds_38 rfl rfl ?_
  refine VW.iast (pc' := 41) d_Model_adds_40 rfl (hM.k rfl) (by omega) (by omega) ?_
  refine VW.aload_n (pc' := 42) d_Model_adds_41 rfl rfl ?_
  refine VW.gP (ci := 11) (T := T11) (N := 94) (k := 60) (k' := 60) (pc' := 45) d_Model_adds_42 rfl lk_Model_156 in11 rfl rfl rfl rfl (hM.k rfl) (hM.p (r := some 260) 60 rfl rfl) ?_
  refine VW.aload_n (pc' := 46) d_Model_adds_45 rfl rfl ?_
  refine VW.gI (ci := 11) (T := T11) (N := 94) (k := 52) (k' := 52) (pc' := 49) d_Model_adds_46 rfl lk_Model_403 in11 rfl rfl rfl rfl (hM.k rfl) (by first | assumption | (simp [up2] <;> rfl) | rfl) ?_
  refine VW.iload (pc' := 51) d_Model_adds_49 rfl rfl ?_
  refine VW.zast (pc' := 52) d_Model_adds_51 rfl (hM.k rfl) (by omega) (by omega) (by omega) ?_
  refine VW.aload_n (pc' := 53) d_Model_adds_52 rfl rfl ?_
  refine VW.dup (pc' := 54) d_Model_adds_53 rfl rfl ?_
  refine VW.gI (ci := 11) (T := T11) (N := 94) (k := 52) (k' := 52) (pc' := 57) d_Model_adds_54 rfl lk_Model_403 in11 rfl rfl rfl rfl (hM.k rfl) (by first | assumption | (simp [up2] <;> rfl) | rfl) ?_
  refine VW.iconst (pc' := 58) d_Model_adds_57 rfl (by decide) ?_
  refine VW.iadd (pc' := 59) d_Model_adds_58 rfl (by omega) ?_
  refine VW.pI (ci := 11) (T := T11) (N := 94) (k := 52) (k' := 52) (ty := ty11) (pc' := 62) d_Model_adds_59 rfl lk_Model_403 in11 tk11 nm11 rfl rfl rfl rfl rfl rfl (hM.k rfl) ?_
  exact VW.vret d_Model_adds_62 rfl (Nat.zero_le _) (Nat.zero_le _) ex_rf
def mClears (I : IT) : IT := up2 (up2 (up2 I 100 51 0) 100 52 0) 100 55 0
theorem sp_Model_clears (hM : MW K P) : Sp m_Model_clears false (rmv 0 0) (ex K P J (mClears I) (.inl none)) K P J I [vR (some 100)] := by
  refine Sp.ofV (by decide) (Or.inr rfl) rfl ?_
  refine VW.aload_n (pc' := 1) d_Model_clears_0 rfl rfl ?_
  refine VW.iconst (pc' := 2) d_Model_clears_1 rfl (by decide) ?_
  refine VW.pI (ci := 11) (T := T11) (N := 94) (k := 51) (k' := 51) (ty := ty11) (pc' := 5) d_Model_clears_2 rfl lk_Model_406 in11 tk11 nm11 rfl rfl rfl rfl rfl rfl (hM.k rfl) ?_
  refine VW.aload_n (pc' := 6) d_Model_clears_5 rfl rfl ?_
  refine VW.iconst (pc' := 7) d_Model_clears_6 rfl (by decide) ?_
  refine VW.pI (ci := 11) (T := T11) (N := 94) (k := 52) (k' := 52) (ty := ty11) (pc' := 10) d_Model_clears_7 rfl lk_Model_403 in11 tk11 nm11 rfl rfl rfl rfl rfl rfl (hM.k rfl) ?_
  refine VW.aload_n (pc' := 11) d_Model_clears_10 rfl rfl ?_
  refine VW.iconst (pc' := 12) d_Model_clears_11 rfl (by decide) ?_
  refine VW.pI (ci := 11) (T := T11) (N := 94) (k := 55) (k' := 55) (ty := ty11) (pc' := 15) d_Model_clears_12 rfl lk_Model_412 in11 tk11 nm11 rfl rfl rfl rfl rfl rfl (hM.k rfl) ?_
  exact VW.vret d_Model_clears_15 rfl (Nat.zero_le _) (Nat.zero_le _) ex_rf
theorem sp_Model_scrap (hM : MW K P) : Sp m_Model_scrap false (rmv 1 20) (ex K P J (mClears (up2 I 100 93 0)) (.inl (some (vI (I 100 51))))) K P J I [vR (some 100)] := by
  refine Sp.ofV (by decide) (Or.inr rfl) rfl ?_
  refine VW.aload_n (pc' := 1) d_Model_scrap_0 rfl rfl ?_
  refine VW.iconst (pc' := 2) d_Model_scrap_1 rfl (by decide) ?_
  refine VW.pI (ci := 11) (T := T11) (N := 94) (k := 93) (k' := 93) (ty := ty11) (pc' := 5) d_Model_scrap_2 rfl lk_Model_231 in11 tk11 nm11 rfl rfl rfl rfl rfl rfl (hM.k rfl) ?_
  refine VW.aload_n (pc' := 6) d_Model_scrap_5 rfl rfl ?_
  refine VW.gI (ci := 11) (T := T11) (N := 94) (k := 51) (k' := 51) (pc' := 9) d_Model_scrap_6 rfl lk_Model_406 in11 rfl rfl rfl rfl (hM.k rfl) (by first | assumption | (simp [up2] <;> rfl) | rfl) ?_
  refine VW.istore_n (pc' := 10) d_Model_scrap_9 rfl rfl ?_
  refine VW.aload_n (pc' := 11) d_Model_scrap_10 rfl rfl ?_
  refine VW.cV (ci := 11) (T := T11) (N := 94) (pc' := 14) d_Model_scrap_11 rfl mv_Model_clears lk_Model_425 rfl (hM.k rfl) rfl rfl rfl (Nat.le_refl _) (Nat.le_refl _) (sp_Model_clears hM) rfl rfl ?_
  refine VW.iload_n (pc' := 15) d_Model_scrap_14 rfl rfl ?_
  exact VW.iret d_Model_scrap_15 rfl rfl (Nat.zero_le _) (Nat.zero_le _) ex_rf
theorem ishrN {a : Int} {m : Nat} (ha : inR a) (h : m < 32) : Int32.ofInt a >>> (Int32.ofInt (m : Int) &&& 31) = Int32.ofInt (a / 2 ^ m) := ishr32 (a := a) (b := (m : Int)) ha (by omega) (by omega)
theorem divN {a : Int} {m : Nat} (ha : inR a) : inR (a / 2 ^ m) := divR (Int.pow_pos (by decide)) ha
theorem divP {a : Int} {m : Nat} (ha : 0 ≤ a) : 0 ≤ a / 2 ^ m := Int.ediv_nonneg ha (Int.le_of_lt (Int.pow_pos (by decide)))
/-- how many of the first n bits are set -/
def mCnt (s : Int) : Nat → Int
  | 0 => 0
  | n + 1 => mCnt s n + s / 2 ^ n % 2
theorem mCnt_rg (s : Int) : ∀ n : Nat, 0 ≤ mCnt s n ∧ mCnt s n ≤ n := by
  intro n
  induction n with
  | zero => exact ⟨Int.le_refl _, Int.le_refl _⟩
  | succ n ih => show 0 ≤ mCnt s n + s / 2 ^ n % 2 ∧ mCnt s n + s / 2 ^ n % 2 ≤ _; omega
theorem sp_Model_counted {s : Int} (hs : 0 ≤ s ∧ s ≤ 2147483647) : Sp m_Model_counted false (rmv 0 0) (ex K P J I (.inl (some (vI (mCnt s 31))))) K P J I [vI s] := by
  refine Sp.ofV (by decide) (Or.inr rfl) rfl ?_
  have loop : ∀ (n m : Nat), m + n = 31 → VW m_Model_counted false (rmv 0 0) (ex K P J I (.inl (some (vI (mCnt s 31))))) K P J I 0 0 4 [(0, vI s), (1, vI (mCnt s m)), (2, vI (m : Int))] [] := by
    intro n
    induction n with
    | zero =>
      intro m hm
      have em : m = 31 := by omega
      subst em
      refine VW.iload_n (pc' := 5) d_Model_counted_4 rfl rfl ?_
      refine VW.bipush (pc' := 7) d_Model_counted_5 rfl (by decide) ?_
      refine VW.icmp_ge (tgt := 24) (pc' := 10) d_Model_counted_7 rfl rfl (fun c7 => ?_) (fun c7 => ?_)
      · refine VW.iload_n (pc' := 25) d_Model_counted_24 rfl rfl ?_
        exact VW.iret d_Model_counted_25 rfl rfl (Nat.zero_le _) (Nat.zero_le _) ex_rf
      · exfalso; omega
    | succ n ih =>
      intro m hm
      have r := mCnt_rg s m
      have rs : inR s := ⟨by omega, by omega⟩
      have d1 := divN (m := m) rs
      have d2 := divP (m := m) hs.1
      have ih1 := ih (m + 1) (by omega)
      have em : ((m + 1 : Nat) : Int) = (m : Int) + 1 := by omega
      rw [em] at ih1
      refine VW.iload_n (pc' := 5) d_Model_counted_4 rfl rfl ?_
      refine VW.bipush (pc' := 7) d_Model_counted_5 rfl (by decide) ?_
      refine VW.icmp_ge (tgt := 24) (pc' := 10) d_Model_counted_7 rfl rfl (fun c7 => ?_) (fun c7 => ?_)
      · exfalso; omega
      · refine VW.iload_n (pc' := 11) d_Model_counted_10 rfl rfl ?_
        refine VW.iload_n (pc' := 12) d_Model_counted_11 rfl rfl ?_
        refine VW.iload_n (pc' := 13) d_Model_counted_12 rfl rfl ?_
        refine VW.ishr (pc' := 14) (z := s / 2 ^ m) d_Model_counted_13 rfl (d1) (ishrN rs (by omega)) ?_
        refine VW.iconst (pc' := 15) d_Model_counted_14 rfl (by decide) ?_
        refine VW.iand (pc' := 16) (z := s / 2 ^ m % 2) d_Model_counted_15 rfl (⟨by omega, by omega⟩) (iand1 d2 (by omega)) ?_
        refine VW.iadd (pc' := 17) d_Model_counted_16 rfl (by omega) ?_
        refine VW.istore_n (pc' := 18) d_Model_counted_17 rfl rfl ?_
        refine VW.iinc (pc' := 21) d_Model_counted_18 rfl rfl rfl (by omega) ?_
        refine VW.goto (pc' := 4) d_Model_counted_21 rfl ?_
        refine VW.nrm ?_
        exact ih1
  refine VW.iconst (pc' := 1) d_Model_counted_0 rfl (by decide) ?_
  refine VW.istore_n (pc' := 2) d_Model_counted_1 rfl rfl ?_
  refine VW.iconst (pc' := 3) d_Model_counted_2 rfl (by decide) ?_
  refine VW.istore_n (pc' := 4) d_Model_counted_3 rfl rfl ?_
  refine VW.nrm ?_
  exact loop 31 0 rfl
noncomputable def cd_Model_scan (I : IT) (t : Int) : Int := if bI (0 ≤ t ∧ t < I 100 0) = 0 then 1 else if I 100 51 = 6 ∨ bI (I 100 52 = 12) ≠ 0 ∨ I 100 55 = 3 then 2 else 0
noncomputable def f_Model_scan  (t : Int) (S : IT) : IT × Int := (mAdd (up2 (up2 (up2 (up2 S 253 (S 100 51) (S 100 52)) 254 (S 100 51) (S 201 t)) 100 51 (S 100 51 + 1)) 100 55 (S 100 55 + 1)) 0 t 0 0 0, S 100 51 + 1)
noncomputable def r_Model_scan  (I : IT) (t : Int) : IT × Int := callR (cd_Model_scan I t) I (f_Model_scan  t)
theorem sp_Model_scan {t : Int} (hM : MW K P) (hb : MB I) (hq : QB I) : Sp m_Model_scan false (rmv 2 43) (ex K P J (r_Model_scan  I t).1 (.inl (some (vI (r_Model_scan  I t).2)))) K P J I [vR (some 100), vI t] := by
  refine Sp.ofV (by decide) (Or.inr rfl) rfl ?_
  have rest : ∀ S : IT, (S = up2 I 100 93 0) → (cd_Model_scan I t = 0) → ((bI (0 ≤ t ∧ t < I 100 0) ≠ 0) ∧ (I 100 51 ≠ 6) ∧ (bI (I 100 52 = 12) = 0) ∧ (I 100 55 ≠ 3)) → VW m_Model_scan false (rmv 2 43) (ex K P J (f_Model_scan  t S).1 (.inl (some (vI (f_Model_scan  t S).2)))) K P J S 0 0 50 [(0, vR (some 100)), (1, vI t)] [] := by
    intro S eS hcd q
    have u : ∀ (o : Nat) (k : Int), (o ≠ 100 ∨ k ≠ 93) → S o k = I o k := fun o k h => by rw [eS]; exact if_neg (fun z => h.elim (fun y => y z.1) (fun y => y z.2))
    have q0 := bIn q.1
    have b3 := hb.tab
    have b0 := hq.op
    have q1 := bIe q.2.2.1
    have a52 : 0 ≤ S 100 52 ∧ S 100 52 < 12 := by rw [u 100 52 (by decide)]; omega
    have b1 := hq.tr
    have b2 := hq.sc
    have a51 : 0 ≤ S 100 51 ∧ S 100 51 < 6 := by rw [u 100 51 (by decide)]; omega
    have a55 : 0 ≤ S 100 55 ∧ S 100 55 < 3 := by rw [u 100 55 (by decide)]; omega
    clear u eS q
    refine VW.aload_n (pc' := 51) d_Model_scan_50 rfl rfl ?_
    refine VW.gP (ci := 11) (T := T11) (N := 94) (k := 53) (k' := 53) (pc' := 54) d_Model_scan_51 rfl lk_Model_138 in11 rfl rfl rfl rfl (hM.k rfl) (hM.p (r := some 253) 53 rfl rfl) ?_
    refine VW.aload_n (pc' := 55) d_Model_scan_54 rfl rfl ?_
    refine VW.gI (ci := 11) (T := T11) (N := 94) (k := 51) (k' := 51) (pc' := 58) d_Model_scan_55 rfl lk_Model_406 in11 rfl rfl rfl rfl (hM.k rfl) (by first | exact up2_eq _ _ _ _ | (simp [up2, mAdd] <;> rfl) | rfl) ?_
    refine VW.aload_n (pc' := 59) d_Model_scan_58 rfl rfl ?_
    refine VW.gI (ci := 11) (T := T11) (N := 94) (k := 52) (k' := 52) (pc' := 62) d_Model_scan_59 rfl lk_Model_403 in11 rfl rfl rfl rfl (hM.k rfl) (by first | exact up2_eq _ _ _ _ | (simp [up2, mAdd] <;> rfl) | rfl) ?_
    refine VW.iast (pc' := 63) d_Model_scan_62 rfl (hM.k rfl) (by omega) (by omega) ?_
    refine VW.aload_n (pc' := 64) d_Model_scan_63 rfl rfl ?_
    refine VW.gP (ci := 11) (T := T11) (N := 94) (k := 54) (k' := 54) (pc' := 67) d_Model_scan_64 rfl lk_Model_141 in11 rfl rfl rfl rfl (hM.k rfl) (hM.p (r := some 254) 54 rfl rfl) ?_
    refine VW.aload_n (pc' := 68) d_Model_scan_67 rfl rfl ?_
    refine VW.gI (ci := 11) (T := T11) (N := 94) (k := 51) (k' := 51) (pc' := 71) d_Model_scan_68 rfl lk_Model_406 in11 rfl rfl rfl rfl (hM.k rfl) (by first | exact up2_eq _ _ _ _ | (simp [up2, mAdd] <;> rfl) | rfl) ?_
    refine VW.aload_n (pc' := 72) d_Model_scan_71 rfl rfl ?_
    refine VW.gP (ci := 11) (T := T11) (N := 94) (k := 1) (k' := 1) (pc' := 75) d_Model_scan_72 rfl lk_Model_7 in11 rfl rfl rfl rfl (hM.k rfl) (hM.p (r := some 201) 1 rfl rfl) ?_
    refine VW.iload_n (pc' := 76) d_Model_scan_75 rfl rfl ?_
    refine VW.ild (pc' := 77) d_Model_scan_76 rfl (hM.k rfl) (by omega) (by omega) (by first | exact up2_eq _ _ _ _ | (simp [up2, mAdd] <;> rfl) | rfl) ?_
    refine VW.iast (pc' := 78) d_Model_scan_77 rfl (hM.k rfl) (by omega) (by omega) ?_
    refine VW.aload_n (pc' := 79) d_Model_scan_78 rfl rfl ?_
    refine VW.dup (pc' := 80) d_Model_scan_79 rfl rfl ?_
    refine VW.gI (ci := 11) (T := T11) (N := 94) (k := 51) (k' := 51) (pc' := 83) d_Model_scan_80 rfl lk_Model_406 in11 rfl rfl rfl rfl (hM.k rfl) (by first | exact up2_eq _ _ _ _ | (simp [up2, mAdd] <;> rfl) | rfl) ?_
    refine VW.iconst (pc' := 84) d_Model_scan_83 rfl (by decide) ?_
    refine VW.iadd (pc' := 85) d_Model_scan_84 rfl (by omega) ?_
    refine VW.pI (ci := 11) (T := T11) (N := 94) (k := 51) (k' := 51) (ty := ty11) (pc' := 88) d_Model_scan_85 rfl lk_Model_406 in11 tk11 nm11 rfl rfl rfl rfl rfl rfl (hM.k rfl) ?_
    refine VW.aload_n (pc' := 89) d_Model_scan_88 rfl rfl ?_
    refine VW.dup (pc' := 90) d_Model_scan_89 rfl rfl ?_
    refine VW.gI (ci := 11) (T := T11) (N := 94) (k := 55) (k' := 55) (pc' := 93) d_Model_scan_90 rfl lk_Model_412 in11 rfl rfl rfl rfl (hM.k rfl) (by first | exact up2_eq _ _ _ _ | (simp [up2, mAdd] <;> rfl) | rfl) ?_
    refine VW.iconst (pc' := 94) d_Model_scan_93 rfl (by decide) ?_
    refine VW.iadd (pc' := 95) d_Model_scan_94 rfl (by omega) ?_
    refine VW.pI (ci := 11) (T := T11) (N := 94) (k := 55) (k' := 55) (ty := ty11) (pc' := 98) d_Model_scan_95 rfl lk_Model_412 in11 tk11 nm11 rfl rfl rfl rfl rfl rfl (hM.k rfl) ?_
    refine VW.aload_n (pc' := 99) d_Model_scan_98 rfl rfl ?_
    refine VW.iconst (pc' := 100) d_Model_scan_99 rfl (by decide) ?_
    refine VW.iload_n (pc' := 101) d_Model_scan_100 rfl rfl ?_
    refine VW.iconst (pc' := 102) d_Model_scan_101 rfl (by decide) ?_
    refine VW.iconst (pc' := 103) d_Model_scan_102 rfl (by decide) ?_
    refine VW.iconst (pc' := 104) d_Model_scan_103 rfl (by decide) ?_
    refine VW.cV (ci := 11) (T := T11) (N := 94) (pc' := 107) d_Model_scan_104 rfl mv_Model_adds lk_Model_415 rfl (hM.k rfl) rfl rfl rfl (Nat.le_refl _) (Nat.le_refl _) (sp_Model_adds hM (by simp [up2]; omega) (Or.inl rfl)) rfl rfl ?_
    refine VW.aload_n (pc' := 108) d_Model_scan_107 rfl rfl ?_
    refine VW.gI (ci := 11) (T := T11) (N := 94) (k := 51) (k' := 51) (pc' := 111) d_Model_scan_108 rfl lk_Model_406 in11 rfl rfl rfl rfl (hM.k rfl) (by first | exact up2_eq _ _ _ _ | (simp [up2, mAdd] <;> rfl) | rfl) ?_
    exact VW.iret d_Model_scan_111 rfl rfl (Nat.zero_le _) (Nat.zero_le _) ex_rf
  have after : ∀ z : Int, z = cd_Model_scan I t → VW m_Model_scan false (rmv 2 43) (ex K P J (r_Model_scan  I t).1 (.inl (some (vI (r_Model_scan  I t).2)))) K P J (up2 I 100 93 z) 0 0 45 [(0, vR (some 100)), (1, vI t)] [vI (bI (0 < z))] := by
    intro z hz
    unfold r_Model_scan
    rw [← hz]
    have q : ¬ 0 < z → (z = 0 ∧ ((bI (0 ≤ t ∧ t < I 100 0) ≠ 0) ∧ (I 100 51 ≠ 6) ∧ (bI (I 100 52 = 12) = 0) ∧ (I 100 55 ≠ 3))) := by
      intro h0
      have hz' := hz
      unfold cd_Model_scan at hz'
      (repeat' split at hz') <;> first | (exfalso; omega) | (refine ⟨by omega, ?_⟩; first | trivial | omega)
    refine VW.if_eq (tgt := 50) (pc' := 48) d_Model_scan_45 rfl rfl (fun c45 => ?_) (fun c45 => ?_)
    · try have e45 := bIe c45
      refine VW.nrm ?_
      rw [callR_0 e45]
      have qq := q e45
      have hz2 := hz.symm.trans qq.1
      rw [qq.1]
      exact rest _ rfl hz2 qq.2
    · try have e45 := bIn c45
      refine VW.iconst (pc' := 49) d_Model_scan_48 rfl (by decide) ?_
      exact VW.iret d_Model_scan_49 rfl rfl (Nat.zero_le _) (Nat.zero_le _) (ex_r (callR_1 e45))
  have b0 := hq.tr
  have b1 := hq.op
  have b2 := hq.sc
  refine VW.aload_n (pc' := 1) d_Model_scan_0 rfl rfl ?_
  refine VW.aload_n (pc' := 2) d_Model_scan_1 rfl rfl ?_
  refine VW.iload_n (pc' := 3) d_Model_scan_2 rfl rfl ?_
  refine VW.cV (ci := 11) (T := T11) (N := 94) (pc' := 6) d_Model_scan_3 rfl mv_Model_isTable lk_Model_242 rfl (hM.k rfl) rfl rfl rfl (Nat.le_refl _) (Nat.le_refl _) (sp_Model_isTable hM hb.tab.1) rfl rfl ?_
  refine VW.if_ne (tgt := 13) (pc' := 9) d_Model_scan_6 rfl rfl (fun c6 => ?_) (fun c6 => ?_)
  · try have e6 := bIn c6
    refine VW.aload_n (pc' := 14) d_Model_scan_13 rfl rfl ?_
    refine VW.gI (ci := 11) (T := T11) (N := 94) (k := 51) (k' := 51) (pc' := 17) d_Model_scan_14 rfl lk_Model_406 in11 rfl rfl rfl rfl (hM.k rfl) (by first | assumption | (simp [up2] <;> rfl) | rfl) ?_
    refine VW.bipush (pc' := 19) d_Model_scan_17 rfl (by decide) ?_
    refine VW.icmp_eq (tgt := 37) (pc' := 22) d_Model_scan_19 rfl rfl (fun c19 => ?_) (fun c19 => ?_)
    · refine VW.iconst (pc' := 38) d_Model_scan_37 rfl (by decide) ?_
      refine VW.goto (pc' := 42) d_Model_scan_38 rfl ?_
      refine VW.cV (ci := 11) (T := T11) (N := 94) (pc' := 45) d_Model_scan_42 rfl mv_Model_fails lk_Model_254 rfl (hM.k rfl) rfl rfl rfl (Nat.le_refl _) (Nat.le_refl _) (sp_Model_fails hM) rfl rfl ?_
      refine VW.pick [0, 1] ?_
      exact after _ (by unfold cd_Model_scan; (repeat' split) <;> first | rfl | (exfalso; omega))
    · refine VW.aload_n (pc' := 23) d_Model_scan_22 rfl rfl ?_
      refine VW.cV (ci := 11) (T := T11) (N := 94) (pc' := 26) d_Model_scan_23 rfl mv_Model_isFull lk_Model_409 rfl (hM.k rfl) rfl rfl rfl (Nat.le_refl _) (Nat.le_refl _) (sp_Model_isFull hM) rfl rfl ?_
      refine VW.if_ne (tgt := 37) (pc' := 29) d_Model_scan_26 rfl rfl (fun c26 => ?_) (fun c26 => ?_)
      · try have e26 := bIn c26
        refine VW.iconst (pc' := 38) d_Model_scan_37 rfl (by decide) ?_
        refine VW.goto (pc' := 42) d_Model_scan_38 rfl ?_
        refine VW.cV (ci := 11) (T := T11) (N := 94) (pc' := 45) d_Model_scan_42 rfl mv_Model_fails lk_Model_254 rfl (hM.k rfl) rfl rfl rfl (Nat.le_refl _) (Nat.le_refl _) (sp_Model_fails hM) rfl rfl ?_
        refine VW.pick [0, 1] ?_
        exact after _ (by unfold cd_Model_scan; (repeat' split) <;> first | rfl | (exfalso; omega))
      · try have e26 := bIe c26
        refine VW.aload_n (pc' := 30) d_Model_scan_29 rfl rfl ?_
        refine VW.gI (ci := 11) (T := T11) (N := 94) (k := 55) (k' := 55) (pc' := 33) d_Model_scan_30 rfl lk_Model_412 in11 rfl rfl rfl rfl (hM.k rfl) (by first | assumption | (simp [up2] <;> rfl) | rfl) ?_
        refine VW.iconst (pc' := 34) d_Model_scan_33 rfl (by decide) ?_
        refine VW.icmp_ne (tgt := 41) (pc' := 37) d_Model_scan_34 rfl rfl (fun c34 => ?_) (fun c34 => ?_)
        · refine VW.iconst (pc' := 42) d_Model_scan_41 rfl (by decide) ?_
          refine VW.cV (ci := 11) (T := T11) (N := 94) (pc' := 45) d_Model_scan_42 rfl mv_Model_fails lk_Model_254 rfl (hM.k rfl) rfl rfl rfl (Nat.le_refl _) (Nat.le_refl _) (sp_Model_fails hM) rfl rfl ?_
          refine VW.pick [0, 1] ?_
          exact after _ (by unfold cd_Model_scan; (repeat' split) <;> first | rfl | (exfalso; omega))
        · refine VW.iconst (pc' := 38) d_Model_scan_37 rfl (by decide) ?_
          refine VW.goto (pc' := 42) d_Model_scan_38 rfl ?_
          refine VW.cV (ci := 11) (T := T11) (N := 94) (pc' := 45) d_Model_scan_42 rfl mv_Model_fails lk_Model_254 rfl (hM.k rfl) rfl rfl rfl (Nat.le_refl _) (Nat.le_refl _) (sp_Model_fails hM) rfl rfl ?_
          refine VW.pick [0, 1] ?_
          exact after _ (by unfold cd_Model_scan; (repeat' split) <;> first | rfl | (exfalso; omega))
  · try have e6 := bIe c6
    refine VW.iconst (pc' := 10) d_Model_scan_9 rfl (by decide) ?_
    refine VW.goto (pc' := 42) d_Model_scan_10 rfl ?_
    refine VW.cV (ci := 11) (T := T11) (N := 94) (pc' := 45) d_Model_scan_42 rfl mv_Model_fails lk_Model_254 rfl (hM.k rfl) rfl rfl rfl (Nat.le_refl _) (Nat.le_refl _) (sp_Model_fails hM) rfl rfl ?_
    refine VW.pick [0, 1] ?_
    exact after _ (by unfold cd_Model_scan; (repeat' split) <;> first | rfl | (exfalso; omega))
noncomputable def cd_Model_filter (I : IT) (c w v nt : Int) : Int := if I 100 51 = 0 ∨ bI (I 100 52 = 12) ≠ 0 then 1 else if bI (mOfLast I c) = 0 then 2 else if bI (0 ≤ w ∧ w ≤ 2) ≠ 0 ∧ (v = -2147483648 ∨ bI (-1000 ≤ v ∧ v ≤ 1000) ≠ 0) then 0 else 3
noncomputable def f_Model_filter  (c w v nt : Int) (S : IT) : IT × Int := (mAdd S 1 c w v nt, S 100 51)
noncomputable def r_Model_filter  (I : IT) (c w v nt : Int) : IT × Int := callR (cd_Model_filter I c w v nt) I (f_Model_filter  c w v nt)
theorem sp_Model_filter {c w v nt : Int} (hM : MW K P) (hq : QB I) (hz : nt = 0 ∨ nt = 1) : Sp m_Model_filter false (rmv 2 43) (ex K P J (r_Model_filter  I c w v nt).1 (.inl (some (vI (r_Model_filter  I c w v nt).2)))) K P J I [vR (some 100), vI c, vI w, vI v, vI nt] := by
  refine Sp.ofV (by decide) (Or.inr rfl) rfl ?_
  have rest : ∀ a : Int, ∀ S : IT, (S = up2 I 100 93 0) → (cd_Model_filter I c w v nt = 0) → ((I 100 51 ≠ 0) ∧ (bI (I 100 52 = 12) = 0)) → VW m_Model_filter false (rmv 2 43) (ex K P J (f_Model_filter  c w v nt S).1 (.inl (some (vI (f_Model_filter  c w v nt S).2)))) K P J S 0 0 76 [(0, vR (some 100)), (1, vI c), (2, vI w), (3, vI v), (4, vI nt), (5, vI a)] [] := by
    intro a S eS hcd q
    have u : ∀ (o : Nat) (k : Int), (o ≠ 100 ∨ k ≠ 93) → S o k = I o k := fun o k h => by rw [eS]; exact if_neg (fun z => h.elim (fun y => y z.1) (fun y => y z.2))
    have b0 := hq.op
    have q1 := bIe q.2
    have a52 : 0 ≤ S 100 52 ∧ S 100 52 < 252 := by rw [u 100 52 (by decide)]; omega
    have b1 := hq.tr
    have a51 : 0 < S 100 51 ∧ S 100 51 ≤ 6 := by rw [u 100 51 (by decide)]; omega
    clear u eS q
    refine VW.aload_n (pc' := 77) d_Model_filter_76 rfl rfl ?_
    refine VW.iconst (pc' := 78) d_Model_filter_77 rfl (by decide) ?_
    refine VW.iload_n (pc' := 79) d_Model_filter_78 rfl rfl ?_
    refine VW.iload_n (pc' := 80) d_Model_filter_79 rfl rfl ?_
    refine VW.iload_n (pc' := 81) d_Model_filter_80 rfl rfl ?_
    refine VW.iload (pc' := 83) d_Model_filter_81 rfl rfl ?_
    refine VW.cV (ci := 11) (T := T11) (N := 94) (pc' := 86) d_Model_filter_83 rfl mv_Model_adds lk_Model_415 rfl (hM.k rfl) rfl rfl rfl (Nat.le_refl _) (Nat.le_refl _) (sp_Model_adds hM a52 hz) rfl rfl ?_
    refine VW.aload_n (pc' := 87) d_Model_filter_86 rfl rfl ?_
    refine VW.gI (ci := 11) (T := T11) (N := 94) (k := 51) (k' := 51) (pc' := 90) d_Model_filter_87 rfl lk_Model_406 in11 rfl rfl rfl rfl (hM.k rfl) (by first | (simp [up2, mAdd] <;> rfl) | rfl) ?_
    exact VW.iret d_Model_filter_90 rfl rfl (Nat.zero_le _) (Nat.zero_le _) ex_rf
  have after : ∀ a : Int, ∀ z : Int, z = cd_Model_filter I c w v nt → VW m_Model_filter false (rmv 2 43) (ex K P J (r_Model_filter  I c w v nt).1 (.inl (some (vI (r_Model_filter  I c w v nt).2)))) K P J (up2 I 100 93 z) 0 0 71 [(0, vR (some 100)), (1, vI c), (2, vI w), (3, vI v), (4, vI nt), (5, vI a)] [vI (bI (0 < z))] := by
    intro a z hz
    unfold r_Model_filter
    rw [← hz]
    have q : ¬ 0 < z → (z = 0 ∧ ((I 100 51 ≠ 0) ∧ (bI (I 100 52 = 12) = 0))) := by
      intro h0
      have hz' := hz
      unfold cd_Model_filter at hz'
      (repeat' split at hz') <;> first | (exfalso; omega) | (refine ⟨by omega, ?_⟩; first | trivial | omega)
    refine VW.if_eq (tgt := 76) (pc' := 74) d_Model_filter_71 rfl rfl (fun c71 => ?_) (fun c71 => ?_)
    · try have e71 := bIe c71
      refine VW.nrm ?_
      rw [callR_0 e71]
      have qq := q e71
      have hz2 := hz.symm.trans qq.1
      rw [qq.1]
      exact rest _ _ rfl hz2 qq.2
    · try have e71 := bIn c71
      refine VW.iconst (pc' := 75) d_Model_filter_74 rfl (by decide) ?_
      exact VW.iret d_Model_filter_75 rfl rfl (Nat.zero_le _) (Nat.zero_le _) (ex_r (callR_1 e71))
  have b0 := hq.tr
  have b1 := hq.op
  have b2 := hq.sc
  refine VW.iload_n (pc' := 1) d_Model_filter_0 rfl rfl ?_
  refine VW.cS (pc' := 4) d_Model_filter_1 rfl ms_Model_isHow lk_Model_264 rfl rfl rfl (Nat.le_refl _) (Nat.le_refl _) (sp_Model_isHow) rfl rfl ?_
  refine VW.if_eq (tgt := 24) (pc' := 7) d_Model_filter_4 rfl rfl (fun c4 => ?_) (fun c4 => ?_)
  · try have e4 := bIe c4
    refine VW.iconst (pc' := 25) d_Model_filter_24 rfl (by decide) ?_
    refine VW.istore (pc' := 27) d_Model_filter_25 rfl rfl ?_
    refine VW.aload_n (pc' := 28) d_Model_filter_27 rfl rfl ?_
    refine VW.aload_n (pc' := 29) d_Model_filter_28 rfl rfl ?_
    refine VW.gI (ci := 11) (T := T11) (N := 94) (k := 51) (k' := 51) (pc' := 32) d_Model_filter_29 rfl lk_Model_406 in11 rfl rfl rfl rfl (hM.k rfl) (by first | assumption | (simp [up2] <;> rfl) | rfl) ?_
    refine VW.if_eq (tgt := 42) (pc' := 35) d_Model_filter_32 rfl rfl (fun c32 => ?_) (fun c32 => ?_)
    · try have e32 := bIe c32
      refine VW.iconst (pc' := 43) d_Model_filter_42 rfl (by decide) ?_
      refine VW.goto (pc' := 68) d_Model_filter_43 rfl ?_
      refine VW.cV (ci := 11) (T := T11) (N := 94) (pc' := 71) d_Model_filter_68 rfl mv_Model_fails lk_Model_254 rfl (hM.k rfl) rfl rfl rfl (Nat.le_refl _) (Nat.le_refl _) (sp_Model_fails hM) rfl rfl ?_
      refine VW.pick [0, 1, 2, 3, 4, 5] ?_
      exact after _ _ (by unfold cd_Model_filter; (repeat' split) <;> first | rfl | (exfalso; omega))
    · try have e32 := bIn c32
      refine VW.aload_n (pc' := 36) d_Model_filter_35 rfl rfl ?_
      refine VW.cV (ci := 11) (T := T11) (N := 94) (pc' := 39) d_Model_filter_36 rfl mv_Model_isFull lk_Model_409 rfl (hM.k rfl) rfl rfl rfl (Nat.le_refl _) (Nat.le_refl _) (sp_Model_isFull hM) rfl rfl ?_
      refine VW.if_eq (tgt := 46) (pc' := 42) d_Model_filter_39 rfl rfl (fun c39 => ?_) (fun c39 => ?_)
      · try have e39 := bIe c39
        refine VW.aload_n (pc' := 47) d_Model_filter_46 rfl rfl ?_
        refine VW.iload_n (pc' := 48) d_Model_filter_47 rfl rfl ?_
        refine VW.cV (ci := 11) (T := T11) (N := 94) (pc' := 51) d_Model_filter_48 rfl mv_Model_isOfLast lk_Model_419 rfl (hM.k rfl) rfl rfl rfl (Nat.le_refl _) (Nat.le_refl _) (sp_Model_isOfLast hM hq) rfl rfl ?_
        refine VW.if_ne (tgt := 58) (pc' := 54) d_Model_filter_51 rfl rfl (fun c51 => ?_) (fun c51 => ?_)
        · try have e51 := bIn c51
          refine VW.iload (pc' := 60) d_Model_filter_58 rfl rfl ?_
          refine VW.if_eq (tgt := 67) (pc' := 63) d_Model_filter_60 rfl rfl (fun _ => ?_) (fun c60 => absurd c60 (by decide))
          refine VW.iconst (pc' := 68) d_Model_filter_67 rfl (by decide) ?_
          refine VW.cV (ci := 11) (T := T11) (N := 94) (pc' := 71) d_Model_filter_68 rfl mv_Model_fails lk_Model_254 rfl (hM.k rfl) rfl rfl rfl (Nat.le_refl _) (Nat.le_refl _) (sp_Model_fails hM) rfl rfl ?_
          refine VW.pick [0, 1, 2, 3, 4, 5] ?_
          exact after _ _ (by unfold cd_Model_filter; (repeat' split) <;> first | rfl | (exfalso; omega))
        · try have e51 := bIe c51
          refine VW.iconst (pc' := 55) d_Model_filter_54 rfl (by decide) ?_
          refine VW.goto (pc' := 68) d_Model_filter_55 rfl ?_
          refine VW.cV (ci := 11) (T := T11) (N := 94) (pc' := 71) d_Model_filter_68 rfl mv_Model_fails lk_Model_254 rfl (hM.k rfl) rfl rfl rfl (Nat.le_refl _) (Nat.le_refl _) (sp_Model_fails hM) rfl rfl ?_
          refine VW.pick [0, 1, 2, 3, 4, 5] ?_
          exact after _ _ (by unfold cd_Model_filter; (repeat' split) <;> first | rfl | (exfalso; omega))
      · try have e39 := bIn c39
        refine VW.iconst (pc' := 43) d_Model_filter_42 rfl (by decide) ?_
        refine VW.goto (pc' := 68) d_Model_filter_43 rfl ?_
        refine VW.cV (ci := 11) (T := T11) (N := 94) (pc' := 71) d_Model_filter_68 rfl mv_Model_fails lk_Model_254 rfl (hM.k rfl) rfl rfl rfl (Nat.le_refl _) (Nat.le_refl _) (sp_Model_fails hM) rfl rfl ?_
        refine VW.pick [0, 1, 2, 3, 4, 5] ?_
        exact after _ _ (by unfold cd_Model_filter; (repeat' split) <;> first | rfl | (exfalso; omega))
  · try have e4 := bIn c4
    refine VW.iload_n (pc' := 8) d_Model_filter_7 rfl rfl ?_
    refine VW.ldc (pc' := 10) (z := -2147483648) d_Model_filter_8 rfl lk_Model_246 (by decide) (by decide) ?_
    refine VW.icmp_eq (tgt := 20) (pc' := 13) d_Model_filter_10 rfl rfl (fun c10 => ?_) (fun c10 => ?_)
    · refine VW.iconst (pc' := 21) d_Model_filter_20 rfl (by decide) ?_
      refine VW.goto (pc' := 25) d_Model_filter_21 rfl ?_
      refine VW.istore (pc' := 27) d_Model_filter_25 rfl rfl ?_
      refine VW.aload_n (pc' := 28) d_Model_filter_27 rfl rfl ?_
      refine VW.aload_n (pc' := 29) d_Model_filter_28 rfl rfl ?_
      refine VW.gI (ci := 11) (T := T11) (N := 94) (k := 51) (k' := 51) (pc' := 32) d_Model_filter_29 rfl lk_Model_406 in11 rfl rfl rfl rfl (hM.k rfl) (by first | assumption | (simp [up2] <;> rfl) | rfl) ?_
      refine VW.if_eq (tgt := 42) (pc' := 35) d_Model_filter_32 rfl rfl (fun c32 => ?_) (fun c32 => ?_)
      · try have e32 := bIe c32
        refine VW.iconst (pc' := 43) d_Model_filter_42 rfl (by decide) ?_
        refine VW.goto (pc' := 68) d_Model_filter_43 rfl ?_
        refine VW.cV (ci := 11) (T := T11) (N := 94) (pc' := 71) d_Model_filter_68 rfl mv_Model_fails lk_Model_254 rfl (hM.k rfl) rfl rfl rfl (Nat.le_refl _) (Nat.le_refl _) (sp_Model_fails hM) rfl rfl ?_
        refine VW.pick [0, 1, 2, 3, 4, 5] ?_
        exact after _ _ (by unfold cd_Model_filter; (repeat' split) <;> first | rfl | (exfalso; omega))
      · try have e32 := bIn c32
        refine VW.aload_n (pc' := 36) d_Model_filter_35 rfl rfl ?_
        refine VW.cV (ci := 11) (T := T11) (N := 94) (pc' := 39) d_Model_filter_36 rfl mv_Model_isFull lk_Model_409 rfl (hM.k rfl) rfl rfl rfl (Nat.le_refl _) (Nat.le_refl _) (sp_Model_isFull hM) rfl rfl ?_
        refine VW.if_eq (tgt := 46) (pc' := 42) d_Model_filter_39 rfl rfl (fun c39 => ?_) (fun c39 => ?_)
        · try have e39 := bIe c39
          refine VW.aload_n (pc' := 47) d_Model_filter_46 rfl rfl ?_
          refine VW.iload_n (pc' := 48) d_Model_filter_47 rfl rfl ?_
          refine VW.cV (ci := 11) (T := T11) (N := 94) (pc' := 51) d_Model_filter_48 rfl mv_Model_isOfLast lk_Model_419 rfl (hM.k rfl) rfl rfl rfl (Nat.le_refl _) (Nat.le_refl _) (sp_Model_isOfLast hM hq) rfl rfl ?_
          refine VW.if_ne (tgt := 58) (pc' := 54) d_Model_filter_51 rfl rfl (fun c51 => ?_) (fun c51 => ?_)
          · try have e51 := bIn c51
            refine VW.iload (pc' := 60) d_Model_filter_58 rfl rfl ?_
            refine VW.if_eq (tgt := 67) (pc' := 63) d_Model_filter_60 rfl rfl (fun c60 => absurd c60 (by decide)) (fun _ => ?_)
            refine VW.iconst (pc' := 64) d_Model_filter_63 rfl (by decide) ?_
            refine VW.goto (pc' := 68) d_Model_filter_64 rfl ?_
            refine VW.cV (ci := 11) (T := T11) (N := 94) (pc' := 71) d_Model_filter_68 rfl mv_Model_fails lk_Model_254 rfl (hM.k rfl) rfl rfl rfl (Nat.le_refl _) (Nat.le_refl _) (sp_Model_fails hM) rfl rfl ?_
            refine VW.pick [0, 1, 2, 3, 4, 5] ?_
            exact after _ _ (by unfold cd_Model_filter; (repeat' split) <;> first | rfl | (exfalso; omega))
          · try have e51 := bIe c51
            refine VW.iconst (pc' := 55) d_Model_filter_54 rfl (by decide) ?_
            refine VW.goto (pc' := 68) d_Model_filter_55 rfl ?_
            refine VW.cV (ci := 11) (T := T11) (N := 94) (pc' := 71) d_Model_filter_68 rfl mv_Model_fails lk_Model_254 rfl (hM.k rfl) rfl rfl rfl (Nat.le_refl _) (Nat.le_refl _) (sp_Model_fails hM) rfl rfl ?_
            refine VW.pick [0, 1, 2, 3, 4, 5] ?_
            exact after _ _ (by unfold cd_Model_filter; (repeat' split) <;> first | rfl | (exfalso; omega))
        · try have e39 := bIn c39
          refine VW.iconst (pc' := 43) d_Model_filter_42 rfl (by decide) ?_
          refine VW.goto (pc' := 68) d_Model_filter_43 rfl ?_
          refine VW.cV (ci := 11) (T := T11) (N := 94) (pc' := 71) d_Model_filter_68 rfl mv_Model_fails lk_Model_254 rfl (hM.k rfl) rfl rfl rfl (Nat.le_refl _) (Nat.le_refl _) (sp_Model_fails hM) rfl rfl ?_
          refine VW.pick [0, 1, 2, 3, 4, 5] ?_
          exact after _ _ (by unfold cd_Model_filter; (repeat' split) <;> first | rfl | (exfalso; omega))
    · refine VW.iload_n (pc' := 14) d_Model_filter_13 rfl rfl ?_
      refine VW.cS (pc' := 17) d_Model_filter_14 rfl ms_Model_isValue lk_Model_267 rfl rfl rfl (Nat.le_refl _) (Nat.le_refl _) (sp_Model_isValue) rfl rfl ?_
      refine VW.if_eq (tgt := 24) (pc' := 20) d_Model_filter_17 rfl rfl (fun c17 => ?_) (fun c17 => ?_)
      · try have e17 := bIe c17
        refine VW.iconst (pc' := 25) d_Model_filter_24 rfl (by decide) ?_
        refine VW.istore (pc' := 27) d_Model_filter_25 rfl rfl ?_
        refine VW.aload_n (pc' := 28) d_Model_filter_27 rfl rfl ?_
        refine VW.aload_n (pc' := 29) d_Model_filter_28 rfl rfl ?_
        refine VW.gI (ci := 11) (T := T11) (N := 94) (k := 51) (k' := 51) (pc' := 32) d_Model_filter_29 rfl lk_Model_406 in11 rfl rfl rfl rfl (hM.k rfl) (by first | assumption | (simp [up2] <;> rfl) | rfl) ?_
        refine VW.if_eq (tgt := 42) (pc' := 35) d_Model_filter_32 rfl rfl (fun c32 => ?_) (fun c32 => ?_)
        · try have e32 := bIe c32
          refine VW.iconst (pc' := 43) d_Model_filter_42 rfl (by decide) ?_
          refine VW.goto (pc' := 68) d_Model_filter_43 rfl ?_
          refine VW.cV (ci := 11) (T := T11) (N := 94) (pc' := 71) d_Model_filter_68 rfl mv_Model_fails lk_Model_254 rfl (hM.k rfl) rfl rfl rfl (Nat.le_refl _) (Nat.le_refl _) (sp_Model_fails hM) rfl rfl ?_
          refine VW.pick [0, 1, 2, 3, 4, 5] ?_
          exact after _ _ (by unfold cd_Model_filter; (repeat' split) <;> first | rfl | (exfalso; omega))
        · try have e32 := bIn c32
          refine VW.aload_n (pc' := 36) d_Model_filter_35 rfl rfl ?_
          refine VW.cV (ci := 11) (T := T11) (N := 94) (pc' := 39) d_Model_filter_36 rfl mv_Model_isFull lk_Model_409 rfl (hM.k rfl) rfl rfl rfl (Nat.le_refl _) (Nat.le_refl _) (sp_Model_isFull hM) rfl rfl ?_
          refine VW.if_eq (tgt := 46) (pc' := 42) d_Model_filter_39 rfl rfl (fun c39 => ?_) (fun c39 => ?_)
          · try have e39 := bIe c39
            refine VW.aload_n (pc' := 47) d_Model_filter_46 rfl rfl ?_
            refine VW.iload_n (pc' := 48) d_Model_filter_47 rfl rfl ?_
            refine VW.cV (ci := 11) (T := T11) (N := 94) (pc' := 51) d_Model_filter_48 rfl mv_Model_isOfLast lk_Model_419 rfl (hM.k rfl) rfl rfl rfl (Nat.le_refl _) (Nat.le_refl _) (sp_Model_isOfLast hM hq) rfl rfl ?_
            refine VW.if_ne (tgt := 58) (pc' := 54) d_Model_filter_51 rfl rfl (fun c51 => ?_) (fun c51 => ?_)
            · try have e51 := bIn c51
              refine VW.iload (pc' := 60) d_Model_filter_58 rfl rfl ?_
              refine VW.if_eq (tgt := 67) (pc' := 63) d_Model_filter_60 rfl rfl (fun _ => ?_) (fun c60 => absurd c60 (by decide))
              refine VW.iconst (pc' := 68) d_Model_filter_67 rfl (by decide) ?_
              refine VW.cV (ci := 11) (T := T11) (N := 94) (pc' := 71) d_Model_filter_68 rfl mv_Model_fails lk_Model_254 rfl (hM.k rfl) rfl rfl rfl (Nat.le_refl _) (Nat.le_refl _) (sp_Model_fails hM) rfl rfl ?_
              refine VW.pick [0, 1, 2, 3, 4, 5] ?_
              exact after _ _ (by unfold cd_Model_filter; (repeat' split) <;> first | rfl | (exfalso; omega))
            · try have e51 := bIe c51
              refine VW.iconst (pc' := 55) d_Model_filter_54 rfl (by decide) ?_
              refine VW.goto (pc' := 68) d_Model_filter_55 rfl ?_
              refine VW.cV (ci := 11) (T := T11) (N := 94) (pc' := 71) d_Model_filter_68 rfl mv_Model_fails lk_Model_254 rfl (hM.k rfl) rfl rfl rfl (Nat.le_refl _) (Nat.le_refl _) (sp_Model_fails hM) rfl rfl ?_
              refine VW.pick [0, 1, 2, 3, 4, 5] ?_
              exact after _ _ (by unfold cd_Model_filter; (repeat' split) <;> first | rfl | (exfalso; omega))
          · try have e39 := bIn c39
            refine VW.iconst (pc' := 43) d_Model_filter_42 rfl (by decide) ?_
            refine VW.goto (pc' := 68) d_Model_filter_43 rfl ?_
            refine VW.cV (ci := 11) (T := T11) (N := 94) (pc' := 71) d_Model_filter_68 rfl mv_Model_fails lk_Model_254 rfl (hM.k rfl) rfl rfl rfl (Nat.le_refl _) (Nat.le_refl _) (sp_Model_fails hM) rfl rfl ?_
            refine VW.pick [0, 1, 2, 3, 4, 5] ?_
            exact after _ _ (by unfold cd_Model_filter; (repeat' split) <;> first | rfl | (exfalso; omega))
      · try have e17 := bIn c17
        refine VW.iconst (pc' := 21) d_Model_filter_20 rfl (by decide) ?_
        refine VW.goto (pc' := 25) d_Model_filter_21 rfl ?_
        refine VW.istore (pc' := 27) d_Model_filter_25 rfl rfl ?_
        refine VW.aload_n (pc' := 28) d_Model_filter_27 rfl rfl ?_
        refine VW.aload_n (pc' := 29) d_Model_filter_28 rfl rfl ?_
        refine VW.gI (ci := 11) (T := T11) (N := 94) (k := 51) (k' := 51) (pc' := 32) d_Model_filter_29 rfl lk_Model_406 in11 rfl rfl rfl rfl (hM.k rfl) (by first | assumption | (simp [up2] <;> rfl) | rfl) ?_
        refine VW.if_eq (tgt := 42) (pc' := 35) d_Model_filter_32 rfl rfl (fun c32 => ?_) (fun c32 => ?_)
        · try have e32 := bIe c32
          refine VW.iconst (pc' := 43) d_Model_filter_42 rfl (by decide) ?_
          refine VW.goto (pc' := 68) d_Model_filter_43 rfl ?_
          refine VW.cV (ci := 11) (T := T11) (N := 94) (pc' := 71) d_Model_filter_68 rfl mv_Model_fails lk_Model_254 rfl (hM.k rfl) rfl rfl rfl (Nat.le_refl _) (Nat.le_refl _) (sp_Model_fails hM) rfl rfl ?_
          refine VW.pick [0, 1, 2, 3, 4, 5] ?_
          exact after _ _ (by unfold cd_Model_filter; (repeat' split) <;> first | rfl | (exfalso; omega))
        · try have e32 := bIn c32
          refine VW.aload_n (pc' := 36) d_Model_filter_35 rfl rfl ?_
          refine VW.cV (ci := 11) (T := T11) (N := 94) (pc' := 39) d_Model_filter_36 rfl mv_Model_isFull lk_Model_409 rfl (hM.k rfl) rfl rfl rfl (Nat.le_refl _) (Nat.le_refl _) (sp_Model_isFull hM) rfl rfl ?_
          refine VW.if_eq (tgt := 46) (pc' := 42) d_Model_filter_39 rfl rfl (fun c39 => ?_) (fun c39 => ?_)
          · try have e39 := bIe c39
            refine VW.aload_n (pc' := 47) d_Model_filter_46 rfl rfl ?_
            refine VW.iload_n (pc' := 48) d_Model_filter_47 rfl rfl ?_
            refine VW.cV (ci := 11) (T := T11) (N := 94) (pc' := 51) d_Model_filter_48 rfl mv_Model_isOfLast lk_Model_419 rfl (hM.k rfl) rfl rfl rfl (Nat.le_refl _) (Nat.le_refl _) (sp_Model_isOfLast hM hq) rfl rfl ?_
            refine VW.if_ne (tgt := 58) (pc' := 54) d_Model_filter_51 rfl rfl (fun c51 => ?_) (fun c51 => ?_)
            · try have e51 := bIn c51
              refine VW.iload (pc' := 60) d_Model_filter_58 rfl rfl ?_
              refine VW.if_eq (tgt := 67) (pc' := 63) d_Model_filter_60 rfl rfl (fun c60 => absurd c60 (by decide)) (fun _ => ?_)
              refine VW.iconst (pc' := 64) d_Model_filter_63 rfl (by decide) ?_
              refine VW.goto (pc' := 68) d_Model_filter_64 rfl ?_
              refine VW.cV (ci := 11) (T := T11) (N := 94) (pc' := 71) d_Model_filter_68 rfl mv_Model_fails lk_Model_254 rfl (hM.k rfl) rfl rfl rfl (Nat.le_refl _) (Nat.le_refl _) (sp_Model_fails hM) rfl rfl ?_
              refine VW.pick [0, 1, 2, 3, 4, 5] ?_
              exact after _ _ (by unfold cd_Model_filter; (repeat' split) <;> first | rfl | (exfalso; omega))
            · try have e51 := bIe c51
              refine VW.iconst (pc' := 55) d_Model_filter_54 rfl (by decide) ?_
              refine VW.goto (pc' := 68) d_Model_filter_55 rfl ?_
              refine VW.cV (ci := 11) (T := T11) (N := 94) (pc' := 71) d_Model_filter_68 rfl mv_Model_fails lk_Model_254 rfl (hM.k rfl) rfl rfl rfl (Nat.le_refl _) (Nat.le_refl _) (sp_Model_fails hM) rfl rfl ?_
              refine VW.pick [0, 1, 2, 3, 4, 5] ?_
              exact after _ _ (by unfold cd_Model_filter; (repeat' split) <;> first | rfl | (exfalso; omega))
          · try have e39 := bIn c39
            refine VW.iconst (pc' := 43) d_Model_filter_42 rfl (by decide) ?_
            refine VW.goto (pc' := 68) d_Model_filter_43 rfl ?_
            refine VW.cV (ci := 11) (T := T11) (N := 94) (pc' := 71) d_Model_filter_68 rfl mv_Model_fails lk_Model_254 rfl (hM.k rfl) rfl rfl rfl (Nat.le_refl _) (Nat.le_refl _) (sp_Model_fails hM) rfl rfl ?_
            refine VW.pick [0, 1, 2, 3, 4, 5] ?_
            exact after _ _ (by unfold cd_Model_filter; (repeat' split) <;> first | rfl | (exfalso; omega))
noncomputable def cd_Model_filterColumns (I : IT) (c w o nt : Int) : Int := if I 100 51 = 0 ∨ bI (I 100 52 = 12) ≠ 0 then 1 else if bI (mOfLast I c) = 0 ∨ bI (mOfLast I o) = 0 then 2 else if bI (0 ≤ w ∧ w ≤ 2) ≠ 0 then 0 else 3
noncomputable def f_Model_filterColumns  (c w o nt : Int) (S : IT) : IT × Int := (mAdd S 2 c w o nt, S 100 51)
noncomputable def r_Model_filterColumns  (I : IT) (c w o nt : Int) : IT × Int := callR (cd_Model_filterColumns I c w o nt) I (f_Model_filterColumns  c w o nt)
theorem sp_Model_filterColumns {c w o nt : Int} (hM : MW K P) (hq : QB I) (hz : nt = 0 ∨ nt = 1) : Sp m_Model_filterColumns false (rmv 2 43) (ex K P J (r_Model_filterColumns  I c w o nt).1 (.inl (some (vI (r_Model_filterColumns  I c w o nt).2)))) K P J I [vR (some 100), vI c, vI w, vI o, vI nt] := by
  refine Sp.ofV (by decide) (Or.inr rfl) rfl ?_
  have rest : ∀ S : IT, (S = up2 I 100 93 0) → (cd_Model_filterColumns I c w o nt = 0) → ((I 100 51 ≠ 0) ∧ (bI (I 100 52 = 12) = 0)) → VW m_Model_filterColumns false (rmv 2 43) (ex K P J (f_Model_filterColumns  c w o nt S).1 (.inl (some (vI (f_Model_filterColumns  c w o nt S).2)))) K P J S 0 0 59 [(0, vR (some 100)), (1, vI c), (2, vI w), (3, vI o), (4, vI nt)] [] := by
    intro S eS hcd q
    have u : ∀ (o : Nat) (k : Int), (o ≠ 100 ∨ k ≠ 93) → S o k = I o k := fun o k h => by rw [eS]; exact if_neg (fun z => h.elim (fun y => y z.1) (fun y => y z.2))
    have b0 := hq.op
    have q1 := bIe q.2
    have a52 : 0 ≤ S 100 52 ∧ S 100 52 < 252 := by rw [u 100 52 (by decide)]; omega
    have b1 := hq.tr
    have a51 : 0 < S 100 51 ∧ S 100 51 ≤ 6 := by rw [u 100 51 (by decide)]; omega
    clear u eS q
    refine VW.aload_n (pc' := 60) d_Model_filterColumns_59 rfl rfl ?_
    refine VW.iconst (pc' := 61) d_Model_filterColumns_60 rfl (by decide) ?_
    refine VW.iload_n (pc' := 62) d_Model_filterColumns_61 rfl rfl ?_
    refine VW.iload_n (pc' := 63) d_Model_filterColumns_62 rfl rfl ?_
    refine VW.iload_n (pc' := 64) d_Model_filterColumns_63 rfl rfl ?_
    refine VW.iload (pc' := 66) d_Model_filterColumns_64 rfl rfl ?_
    refine VW.cV (ci := 11) (T := T11) (N := 94) (pc' := 69) d_Model_filterColumns_66 rfl mv_Model_adds lk_Model_415 rfl (hM.k rfl) rfl rfl rfl (Nat.le_refl _) (Nat.le_refl _) (sp_Model_adds hM a52 hz) rfl rfl ?_
    refine VW.aload_n (pc' := 70) d_Model_filterColumns_69 rfl rfl ?_
    refine VW.gI (ci := 11) (T := T11) (N := 94) (k := 51) (k' := 51) (pc' := 73) d_Model_filterColumns_70 rfl lk_Model_406 in11 rfl rfl rfl rfl (hM.k rfl) (by first | (simp [up2, mAdd] <;> rfl) | rfl) ?_
    exact VW.iret d_Model_filterColumns_73 rfl rfl (Nat.zero_le _) (Nat.zero_le _) ex_rf
  have after : ∀ z : Int, z = cd_Model_filterColumns I c w o nt → VW m_Model_filterColumns false (rmv 2 43) (ex K P J (r_Model_filterColumns  I c w o nt).1 (.inl (some (vI (r_Model_filterColumns  I c w o nt).2)))) K P J (up2 I 100 93 z) 0 0 54 [(0, vR (some 100)), (1, vI c), (2, vI w), (3, vI o), (4, vI nt)] [vI (bI (0 < z))] := by
    intro z hz
    unfold r_Model_filterColumns
    rw [← hz]
    have q : ¬ 0 < z → (z = 0 ∧ ((I 100 51 ≠ 0) ∧ (bI (I 100 52 = 12) = 0))) := by
      intro h0
      have hz' := hz
      unfold cd_Model_filterColumns at hz'
      (repeat' split at hz') <;> first | (exfalso; omega) | (refine ⟨by omega, ?_⟩; first | trivial | omega)
    refine VW.if_eq (tgt := 59) (pc' := 57) d_Model_filterColumns_54 rfl rfl (fun c54 => ?_) (fun c54 => ?_)
    · try have e54 := bIe c54
      refine VW.nrm ?_
      rw [callR_0 e54]
      have qq := q e54
      have hz2 := hz.symm.trans qq.1
      rw [qq.1]
      exact rest _ rfl hz2 qq.2
    · try have e54 := bIn c54
      refine VW.iconst (pc' := 58) d_Model_filterColumns_57 rfl (by decide) ?_
      exact VW.iret d_Model_filterColumns_58 rfl rfl (Nat.zero_le _) (Nat.zero_le _) (ex_r (callR_1 e54))
  have b0 := hq.tr
  have b1 := hq.op
  have b2 := hq.sc
  refine VW.aload_n (pc' := 1) d_Model_filterColumns_0 rfl rfl ?_
  refine VW.aload_n (pc' := 2) d_Model_filterColumns_1 rfl rfl ?_
  refine VW.gI (ci := 11) (T := T11) (N := 94) (k := 51) (k' := 51) (pc' := 5) d_Model_filterColumns_2 rfl lk_Model_406 in11 rfl rfl rfl rfl (hM.k rfl) (by first | assumption | (simp [up2] <;> rfl) | rfl) ?_
  refine VW.if_eq (tgt := 15) (pc' := 8) d_Model_filterColumns_5 rfl rfl (fun c5 => ?_) (fun c5 => ?_)
  · try have e5 := bIe c5
    refine VW.iconst (pc' := 16) d_Model_filterColumns_15 rfl (by decide) ?_
    refine VW.goto (pc' := 51) d_Model_filterColumns_16 rfl ?_
    refine VW.cV (ci := 11) (T := T11) (N := 94) (pc' := 54) d_Model_filterColumns_51 rfl mv_Model_fails lk_Model_254 rfl (hM.k rfl) rfl rfl rfl (Nat.le_refl _) (Nat.le_refl _) (sp_Model_fails hM) rfl rfl ?_
    refine VW.pick [0, 1, 2, 3, 4] ?_
    exact after _ (by unfold cd_Model_filterColumns; (repeat' split) <;> first | rfl | (exfalso; omega))
  · try have e5 := bIn c5
    refine VW.aload_n (pc' := 9) d_Model_filterColumns_8 rfl rfl ?_
    refine VW.cV (ci := 11) (T := T11) (N := 94) (pc' := 12) d_Model_filterColumns_9 rfl mv_Model_isFull lk_Model_409 rfl (hM.k rfl) rfl rfl rfl (Nat.le_refl _) (Nat.le_refl _) (sp_Model_isFull hM) rfl rfl ?_
    refine VW.if_eq (tgt := 19) (pc' := 15) d_Model_filterColumns_12 rfl rfl (fun c12 => ?_) (fun c12 => ?_)
    · try have e12 := bIe c12
      refine VW.aload_n (pc' := 20) d_Model_filterColumns_19 rfl rfl ?_
      refine VW.iload_n (pc' := 21) d_Model_filterColumns_20 rfl rfl ?_
      refine VW.cV (ci := 11) (T := T11) (N := 94) (pc' := 24) d_Model_filterColumns_21 rfl mv_Model_isOfLast lk_Model_419 rfl (hM.k rfl) rfl rfl rfl (Nat.le_refl _) (Nat.le_refl _) (sp_Model_isOfLast hM hq) rfl rfl ?_
      refine VW.if_eq (tgt := 35) (pc' := 27) d_Model_filterColumns_24 rfl rfl (fun c24 => ?_) (fun c24 => ?_)
      · try have e24 := bIe c24
        refine VW.iconst (pc' := 36) d_Model_filterColumns_35 rfl (by decide) ?_
        refine VW.goto (pc' := 51) d_Model_filterColumns_36 rfl ?_
        refine VW.cV (ci := 11) (T := T11) (N := 94) (pc' := 54) d_Model_filterColumns_51 rfl mv_Model_fails lk_Model_254 rfl (hM.k rfl) rfl rfl rfl (Nat.le_refl _) (Nat.le_refl _) (sp_Model_fails hM) rfl rfl ?_
        refine VW.pick [0, 1, 2, 3, 4] ?_
        exact after _ (by unfold cd_Model_filterColumns; (repeat' split) <;> first | rfl | (exfalso; omega))
      · try have e24 := bIn c24
        refine VW.aload_n (pc' := 28) d_Model_filterColumns_27 rfl rfl ?_
        refine VW.iload_n (pc' := 29) d_Model_filterColumns_28 rfl rfl ?_
        refine VW.cV (ci := 11) (T := T11) (N := 94) (pc' := 32) d_Model_filterColumns_29 rfl mv_Model_isOfLast lk_Model_419 rfl (hM.k rfl) rfl rfl rfl (Nat.le_refl _) (Nat.le_refl _) (sp_Model_isOfLast hM hq) rfl rfl ?_
        refine VW.if_ne (tgt := 39) (pc' := 35) d_Model_filterColumns_32 rfl rfl (fun c32 => ?_) (fun c32 => ?_)
        · try have e32 := bIn c32
          refine VW.iload_n (pc' := 40) d_Model_filterColumns_39 rfl rfl ?_
          refine VW.cS (pc' := 43) d_Model_filterColumns_40 rfl ms_Model_isHow lk_Model_264 rfl rfl rfl (Nat.le_refl _) (Nat.le_refl _) (sp_Model_isHow) rfl rfl ?_
          refine VW.if_eq (tgt := 50) (pc' := 46) d_Model_filterColumns_43 rfl rfl (fun c43 => ?_) (fun c43 => ?_)
          · try have e43 := bIe c43
            refine VW.iconst (pc' := 51) d_Model_filterColumns_50 rfl (by decide) ?_
            refine VW.cV (ci := 11) (T := T11) (N := 94) (pc' := 54) d_Model_filterColumns_51 rfl mv_Model_fails lk_Model_254 rfl (hM.k rfl) rfl rfl rfl (Nat.le_refl _) (Nat.le_refl _) (sp_Model_fails hM) rfl rfl ?_
            refine VW.pick [0, 1, 2, 3, 4] ?_
            exact after _ (by unfold cd_Model_filterColumns; (repeat' split) <;> first | rfl | (exfalso; omega))
          · try have e43 := bIn c43
            refine VW.iconst (pc' := 47) d_Model_filterColumns_46 rfl (by decide) ?_
            refine VW.goto (pc' := 51) d_Model_filterColumns_47 rfl ?_
            refine VW.cV (ci := 11) (T := T11) (N := 94) (pc' := 54) d_Model_filterColumns_51 rfl mv_Model_fails lk_Model_254 rfl (hM.k rfl) rfl rfl rfl (Nat.le_refl _) (Nat.le_refl _) (sp_Model_fails hM) rfl rfl ?_
            refine VW.pick [0, 1, 2, 3, 4] ?_
            exact after _ (by unfold cd_Model_filterColumns; (repeat' split) <;> first | rfl | (exfalso; omega))
        · try have e32 := bIe c32
          refine VW.iconst (pc' := 36) d_Model_filterColumns_35 rfl (by decide) ?_
          refine VW.goto (pc' := 51) d_Model_filterColumns_36 rfl ?_
          refine VW.cV (ci := 11) (T := T11) (N := 94) (pc' := 54) d_Model_filterColumns_51 rfl mv_Model_fails lk_Model_254 rfl (hM.k rfl) rfl rfl rfl (Nat.le_refl _) (Nat.le_refl _) (sp_Model_fails hM) rfl rfl ?_
          refine VW.pick [0, 1, 2, 3, 4] ?_
          exact after _ (by unfold cd_Model_filterColumns; (repeat' split) <;> first | rfl | (exfalso; omega))
    · try have e12 := bIn c12
      refine VW.iconst (pc' := 16) d_Model_filterColumns_15 rfl (by decide) ?_
      refine VW.goto (pc' := 51) d_Model_filterColumns_16 rfl ?_
      refine VW.cV (ci := 11) (T := T11) (N := 94) (pc' := 54) d_Model_filterColumns_51 rfl mv_Model_fails lk_Model_254 rfl (hM.k rfl) rfl rfl rfl (Nat.le_refl _) (Nat.le_refl _) (sp_Model_fails hM) rfl rfl ?_
      refine VW.pick [0, 1, 2, 3, 4] ?_
      exact after _ (by unfold cd_Model_filterColumns; (repeat' split) <;> first | rfl | (exfalso; omega))
noncomputable def cd_Model_ratio (I : IT) (c d v : Int) : Int := if I 100 51 = 0 ∨ bI (I 100 52 = 12) ≠ 0 then 1 else if bI (mOfLast I c) = 0 ∨ bI (mOfLast I d) = 0 then 2 else if bI (-1000 ≤ v ∧ v ≤ 1000) ≠ 0 then 0 else 3
noncomputable def f_Model_ratio  (c d v : Int) (S : IT) : IT × Int := (mAdd S 3 c d v 0, S 100 51)
noncomputable def r_Model_ratio  (I : IT) (c d v : Int) : IT × Int := callR (cd_Model_ratio I c d v) I (f_Model_ratio  c d v)
theorem sp_Model_ratio {c d v : Int} (hM : MW K P) (hq : QB I) : Sp m_Model_ratio false (rmv 2 43) (ex K P J (r_Model_ratio  I c d v).1 (.inl (some (vI (r_Model_ratio  I c d v).2)))) K P J I [vR (some 100), vI c, vI d, vI v] := by
  refine Sp.ofV (by decide) (Or.inr rfl) rfl ?_
  have rest : ∀ S : IT, (S = up2 I 100 93 0) → (cd_Model_ratio I c d v = 0) → ((I 100 51 ≠ 0) ∧ (bI (I 100 52 = 12) = 0)) → VW m_Model_ratio false (rmv 2 43) (ex K P J (f_Model_ratio  c d v S).1 (.inl (some (vI (f_Model_ratio  c d v S).2)))) K P J S 0 0 59 [(0, vR (some 100)), (1, vI c), (2, vI d), (3, vI v)] [] := by
    intro S eS hcd q
    have u : ∀ (o : Nat) (k : Int), (o ≠ 100 ∨ k ≠ 93) → S o k = I o k := fun o k h => by rw [eS]; exact if_neg (fun z => h.elim (fun y => y z.1) (fun y => y z.2))
    have b0 := hq.op
    have q1 := bIe q.2
    have a52 : 0 ≤ S 100 52 ∧ S 100 52 < 252 := by rw [u 100 52 (by decide)]; omega
    have b1 := hq.tr
    have a51 : 0 < S 100 51 ∧ S 100 51 ≤ 6 := by rw [u 100 51 (by decide)]; omega
    clear u eS q
    refine VW.aload_n (pc' := 60) d_Model_ratio_59 rfl rfl ?_
    refine VW.iconst (pc' := 61) d_Model_ratio_60 rfl (by decide) ?_
    refine VW.iload_n (pc' := 62) d_Model_ratio_61 rfl rfl ?_
    refine VW.iload_n (pc' := 63) d_Model_ratio_62 rfl rfl ?_
    refine VW.iload_n (pc' := 64) d_Model_ratio_63 rfl rfl ?_
    refine VW.iconst (pc' := 65) d_Model_ratio_64 rfl (by decide) ?_
    refine VW.cV (ci := 11) (T := T11) (N := 94) (pc' := 68) d_Model_ratio_65 rfl mv_Model_adds lk_Model_415 rfl (hM.k rfl) rfl rfl rfl (Nat.le_refl _) (Nat.le_refl _) (sp_Model_adds hM a52 (Or.inl rfl)) rfl rfl ?_
    refine VW.aload_n (pc' := 69) d_Model_ratio_68 rfl rfl ?_
    refine VW.gI (ci := 11) (T := T11) (N := 94) (k := 51) (k' := 51) (pc' := 72) d_Model_ratio_69 rfl lk_Model_406 in11 rfl rfl rfl rfl (hM.k rfl) (by first | (simp [up2, mAdd] <;> rfl) | rfl) ?_
    exact VW.iret d_Model_ratio_72 rfl rfl (Nat.zero_le _) (Nat.zero_le _) ex_rf
  have after : ∀ z : Int, z = cd_Model_ratio I c d v → VW m_Model_ratio false (rmv 2 43) (ex K P J (r_Model_ratio  I c d v).1 (.inl (some (vI (r_Model_ratio  I c d v).2)))) K P J (up2 I 100 93 z) 0 0 54 [(0, vR (some 100)), (1, vI c), (2, vI d), (3, vI v)] [vI (bI (0 < z))] := by
    intro z hz
    unfold r_Model_ratio
    rw [← hz]
    have q : ¬ 0 < z → (z = 0 ∧ ((I 100 51 ≠ 0) ∧ (bI (I 100 52 = 12) = 0))) := by
      intro h0
      have hz' := hz
      unfold cd_Model_ratio at hz'
      (repeat' split at hz') <;> first | (exfalso; omega) | (refine ⟨by omega, ?_⟩; first | trivial | omega)
    refine VW.if_eq (tgt := 59) (pc' := 57) d_Model_ratio_54 rfl rfl (fun c54 => ?_) (fun c54 => ?_)
    · try have e54 := bIe c54
      refine VW.nrm ?_
      rw [callR_0 e54]
      have qq := q e54
      have hz2 := hz.symm.trans qq.1
      rw [qq.1]
      exact rest _ rfl hz2 qq.2
    · try have e54 := bIn c54
      refine VW.iconst (pc' := 58) d_Model_ratio_57 rfl (by decide) ?_
      exact VW.iret d_Model_ratio_58 rfl rfl (Nat.zero_le _) (Nat.zero_le _) (ex_r (callR_1 e54))
  have b0 := hq.tr
  have b1 := hq.op
  have b2 := hq.sc
  refine VW.aload_n (pc' := 1) d_Model_ratio_0 rfl rfl ?_
  refine VW.aload_n (pc' := 2) d_Model_ratio_1 rfl rfl ?_
  refine VW.gI (ci := 11) (T := T11) (N := 94) (k := 51) (k' := 51) (pc' := 5) d_Model_ratio_2 rfl lk_Model_406 in11 rfl rfl rfl rfl (hM.k rfl) (by first | assumption | (simp [up2] <;> rfl) | rfl) ?_
  refine VW.if_eq (tgt := 15) (pc' := 8) d_Model_ratio_5 rfl rfl (fun c5 => ?_) (fun c5 => ?_)
  · try have e5 := bIe c5
    refine VW.iconst (pc' := 16) d_Model_ratio_15 rfl (by decide) ?_
    refine VW.goto (pc' := 51) d_Model_ratio_16 rfl ?_
    refine VW.cV (ci := 11) (T := T11) (N := 94) (pc' := 54) d_Model_ratio_51 rfl mv_Model_fails lk_Model_254 rfl (hM.k rfl) rfl rfl rfl (Nat.le_refl _) (Nat.le_refl _) (sp_Model_fails hM) rfl rfl ?_
    refine VW.pick [0, 1, 2, 3] ?_
    exact after _ (by unfold cd_Model_ratio; (repeat' split) <;> first | rfl | (exfalso; omega))
  · try have e5 := bIn c5
    refine VW.aload_n (pc' := 9) d_Model_ratio_8 rfl rfl ?_
    refine VW.cV (ci := 11) (T := T11) (N := 94) (pc' := 12) d_Model_ratio_9 rfl mv_Model_isFull lk_Model_409 rfl (hM.k rfl) rfl rfl rfl (Nat.le_refl _) (Nat.le_refl _) (sp_Model_isFull hM) rfl rfl ?_
    refine VW.if_eq (tgt := 19) (pc' := 15) d_Model_ratio_12 rfl rfl (fun c12 => ?_) (fun c12 => ?_)
    · try have e12 := bIe c12
      refine VW.aload_n (pc' := 20) d_Model_ratio_19 rfl rfl ?_
      refine VW.iload_n (pc' := 21) d_Model_ratio_20 rfl rfl ?_
      refine VW.cV (ci := 11) (T := T11) (N := 94) (pc' := 24) d_Model_ratio_21 rfl mv_Model_isOfLast lk_Model_419 rfl (hM.k rfl) rfl rfl rfl (Nat.le_refl _) (Nat.le_refl _) (sp_Model_isOfLast hM hq) rfl rfl ?_
      refine VW.if_eq (tgt := 35) (pc' := 27) d_Model_ratio_24 rfl rfl (fun c24 => ?_) (fun c24 => ?_)
      · try have e24 := bIe c24
        refine VW.iconst (pc' := 36) d_Model_ratio_35 rfl (by decide) ?_
        refine VW.goto (pc' := 51) d_Model_ratio_36 rfl ?_
        refine VW.cV (ci := 11) (T := T11) (N := 94) (pc' := 54) d_Model_ratio_51 rfl mv_Model_fails lk_Model_254 rfl (hM.k rfl) rfl rfl rfl (Nat.le_refl _) (Nat.le_refl _) (sp_Model_fails hM) rfl rfl ?_
        refine VW.pick [0, 1, 2, 3] ?_
        exact after _ (by unfold cd_Model_ratio; (repeat' split) <;> first | rfl | (exfalso; omega))
      · try have e24 := bIn c24
        refine VW.aload_n (pc' := 28) d_Model_ratio_27 rfl rfl ?_
        refine VW.iload_n (pc' := 29) d_Model_ratio_28 rfl rfl ?_
        refine VW.cV (ci := 11) (T := T11) (N := 94) (pc' := 32) d_Model_ratio_29 rfl mv_Model_isOfLast lk_Model_419 rfl (hM.k rfl) rfl rfl rfl (Nat.le_refl _) (Nat.le_refl _) (sp_Model_isOfLast hM hq) rfl rfl ?_
        refine VW.if_ne (tgt := 39) (pc' := 35) d_Model_ratio_32 rfl rfl (fun c32 => ?_) (fun c32 => ?_)
        · try have e32 := bIn c32
          refine VW.iload_n (pc' := 40) d_Model_ratio_39 rfl rfl ?_
          refine VW.cS (pc' := 43) d_Model_ratio_40 rfl ms_Model_isValue lk_Model_267 rfl rfl rfl (Nat.le_refl _) (Nat.le_refl _) (sp_Model_isValue) rfl rfl ?_
          refine VW.if_eq (tgt := 50) (pc' := 46) d_Model_ratio_43 rfl rfl (fun c43 => ?_) (fun c43 => ?_)
          · try have e43 := bIe c43
            refine VW.iconst (pc' := 51) d_Model_ratio_50 rfl (by decide) ?_
            refine VW.cV (ci := 11) (T := T11) (N := 94) (pc' := 54) d_Model_ratio_51 rfl mv_Model_fails lk_Model_254 rfl (hM.k rfl) rfl rfl rfl (Nat.le_refl _) (Nat.le_refl _) (sp_Model_fails hM) rfl rfl ?_
            refine VW.pick [0, 1, 2, 3] ?_
            exact after _ (by unfold cd_Model_ratio; (repeat' split) <;> first | rfl | (exfalso; omega))
          · try have e43 := bIn c43
            refine VW.iconst (pc' := 47) d_Model_ratio_46 rfl (by decide) ?_
            refine VW.goto (pc' := 51) d_Model_ratio_47 rfl ?_
            refine VW.cV (ci := 11) (T := T11) (N := 94) (pc' := 54) d_Model_ratio_51 rfl mv_Model_fails lk_Model_254 rfl (hM.k rfl) rfl rfl rfl (Nat.le_refl _) (Nat.le_refl _) (sp_Model_fails hM) rfl rfl ?_
            refine VW.pick [0, 1, 2, 3] ?_
            exact after _ (by unfold cd_Model_ratio; (repeat' split) <;> first | rfl | (exfalso; omega))
        · try have e32 := bIe c32
          refine VW.iconst (pc' := 36) d_Model_ratio_35 rfl (by decide) ?_
          refine VW.goto (pc' := 51) d_Model_ratio_36 rfl ?_
          refine VW.cV (ci := 11) (T := T11) (N := 94) (pc' := 54) d_Model_ratio_51 rfl mv_Model_fails lk_Model_254 rfl (hM.k rfl) rfl rfl rfl (Nat.le_refl _) (Nat.le_refl _) (sp_Model_fails hM) rfl rfl ?_
          refine VW.pick [0, 1, 2, 3] ?_
          exact after _ (by unfold cd_Model_ratio; (repeat' split) <;> first | rfl | (exfalso; omega))
    · try have e12 := bIn c12
      refine VW.iconst (pc' := 16) d_Model_ratio_15 rfl (by decide) ?_
      refine VW.goto (pc' := 51) d_Model_ratio_16 rfl ?_
      refine VW.cV (ci := 11) (T := T11) (N := 94) (pc' := 54) d_Model_ratio_51 rfl mv_Model_fails lk_Model_254 rfl (hM.k rfl) rfl rfl rfl (Nat.le_refl _) (Nat.le_refl _) (sp_Model_fails hM) rfl rfl ?_
      refine VW.pick [0, 1, 2, 3] ?_
      exact after _ (by unfold cd_Model_ratio; (repeat' split) <;> first | rfl | (exfalso; omega))
noncomputable def cd_Model_group (I : IT) (c w o : Int) : Int := if I 100 51 = 0 ∨ bI (I 100 52 = 12) ≠ 0 then 1 else if ¬ ((c = -1 ∨ bI (mOfLast I c) ≠ 0) ∧ (w = 0 ∨ bI (mOfLast I o) ≠ 0)) then 2 else if bI (0 ≤ w ∧ w ≤ 3) ≠ 0 then 0 else 3
noncomputable def f_Model_group  (c w o : Int) (S : IT) : IT × Int := (up2 (mAdd S 6 c w o 0) 254 (S 100 51 - 1) 2, S 100 51)
noncomputable def r_Model_group  (I : IT) (c w o : Int) : IT × Int := callR (cd_Model_group I c w o) I (f_Model_group  c w o)
theorem sp_Model_group {c w o : Int} (hM : MW K P) (hq : QB I) : Sp m_Model_group false (rmv 2 43) (ex K P J (r_Model_group  I c w o).1 (.inl (some (vI (r_Model_group  I c w o).2)))) K P J I [vR (some 100), vI c, vI w, vI o] := by
  refine Sp.ofV (by decide) (Or.inr rfl) rfl ?_
  have rest : ∀ a : Int, ∀ S : IT, (S = up2 I 100 93 0) → (cd_Model_group I c w o = 0) → ((I 100 51 ≠ 0) ∧ (bI (I 100 52 = 12) = 0)) → VW m_Model_group false (rmv 2 43) (ex K P J (f_Model_group  c w o S).1 (.inl (some (vI (f_Model_group  c w o S).2)))) K P J S 0 0 82 [(0, vR (some 100)), (1, vI c), (2, vI w), (3, vI o), (4, vI a)] [] := by
    intro a S eS hcd q
    have u : ∀ (o : Nat) (k : Int), (o ≠ 100 ∨ k ≠ 93) → S o k = I o k := fun o k h => by rw [eS]; exact if_neg (fun z => h.elim (fun y => y z.1) (fun y => y z.2))
    have b0 := hq.op
    have q1 := bIe q.2
    have a52 : 0 ≤ S 100 52 ∧ S 100 52 < 252 := by rw [u 100 52 (by decide)]; omega
    have b1 := hq.tr
    have a51 : 0 < S 100 51 ∧ S 100 51 ≤ 6 := by rw [u 100 51 (by decide)]; omega
    clear u eS q
    refine VW.aload_n (pc' := 83) d_Model_group_82 rfl rfl ?_
    refine VW.bipush (pc' := 85) d_Model_group_83 rfl (by decide) ?_
    refine VW.iload_n (pc' := 86) d_Model_group_85 rfl rfl ?_
    refine VW.iload_n (pc' := 87) d_Model_group_86 rfl rfl ?_
    refine VW.iload_n (pc' := 88) d_Model_group_87 rfl rfl ?_
    refine VW.iconst (pc' := 89) d_Model_group_88 rfl (by decide) ?_
    refine VW.cV (ci := 11) (T := T11) (N := 94) (pc' := 92) d_Model_group_89 rfl mv_Model_adds lk_Model_415 rfl (hM.k rfl) rfl rfl rfl (Nat.le_refl _) (Nat.le_refl _) (sp_Model_adds hM a52 (Or.inl rfl)) rfl rfl ?_
    refine VW.aload_n (pc' := 93) d_Model_group_92 rfl rfl ?_
    refine VW.gP (ci := 11) (T := T11) (N := 94) (k := 54) (k' := 54) (pc' := 96) d_Model_group_93 rfl lk_Model_141 in11 rfl rfl rfl rfl (hM.k rfl) (hM.p (r := some 254) 54 rfl rfl) ?_
    refine VW.aload_n (pc' := 97) d_Model_group_96 rfl rfl ?_
    refine VW.gI (ci := 11) (T := T11) (N := 94) (k := 51) (k' := 51) (pc' := 100) d_Model_group_97 rfl lk_Model_406 in11 rfl rfl rfl rfl (hM.k rfl) (by first | (simp [up2, mAdd] <;> rfl) | rfl) ?_
    refine VW.iconst (pc' := 101) d_Model_group_100 rfl (by decide) ?_
    refine VW.isub (pc' := 102) d_Model_group_101 rfl (by omega) ?_
    refine VW.iconst (pc' := 103) d_Model_group_102 rfl (by decide) ?_
    refine VW.iast (pc' := 104) d_Model_group_103 rfl (hM.k rfl) (by omega) (by omega) ?_
    refine VW.aload_n (pc' := 105) d_Model_group_104 rfl rfl ?_
    refine VW.gI (ci := 11) (T := T11) (N := 94) (k := 51) (k' := 51) (pc' := 108) d_Model_group_105 rfl lk_Model_406 in11 rfl rfl rfl rfl (hM.k rfl) (by first | (simp [up2, mAdd] <;> rfl) | rfl) ?_
    exact VW.iret d_Model_group_108 rfl rfl (Nat.zero_le _) (Nat.zero_le _) ex_rf
  have after : ∀ a : Int, ∀ z : Int, z = cd_Model_group I c w o → VW m_Model_group false (rmv 2 43) (ex K P J (r_Model_group  I c w o).1 (.inl (some (vI (r_Model_group  I c w o).2)))) K P J (up2 I 100 93 z) 0 0 77 [(0, vR (some 100)), (1, vI c), (2, vI w), (3, vI o), (4, vI a)] [vI (bI (0 < z))] := by
    intro a z hz
    unfold r_Model_group
    rw [← hz]
    have q : ¬ 0 < z → (z = 0 ∧ ((I 100 51 ≠ 0) ∧ (bI (I 100 52 = 12) = 0))) := by
      intro h0
      have hz' := hz
      unfold cd_Model_group at hz'
      (repeat' split at hz') <;> first | (exfalso; omega) | (refine ⟨by omega, ?_⟩; first | trivial | omega)
    refine VW.if_eq (tgt := 82) (pc' := 80) d_Model_group_77 rfl rfl (fun c77 => ?_) (fun c77 => ?_)
    · try have e77 := bIe c77
      refine VW.nrm ?_
      rw [callR_0 e77]
      have qq := q e77
      have hz2 := hz.symm.trans qq.1
      rw [qq.1]
      exact rest _ _ rfl hz2 qq.2
    · try have e77 := bIn c77
      refine VW.iconst (pc' := 81) d_Model_group_80 rfl (by decide) ?_
      exact VW.iret d_Model_group_81 rfl rfl (Nat.zero_le _) (Nat.zero_le _) (ex_r (callR_1 e77))
  have b0 := hq.tr
  have b1 := hq.op
  have b2 := hq.sc
  refine VW.iload_n (pc' := 1) d_Model_group_0 rfl rfl ?_
  refine VW.iconst (pc' := 2) d_Model_group_1 rfl (by decide) ?_
  refine VW.icmp_eq (tgt := 13) (pc' := 5) d_Model_group_2 rfl rfl (fun c2 => ?_) (fun c2 => ?_)
  · refine VW.iload_n (pc' := 14) d_Model_group_13 rfl rfl ?_
    refine VW.if_eq (tgt := 25) (pc' := 17) d_Model_group_14 rfl rfl (fun c14 => ?_) (fun c14 => ?_)
    · try have e14 := bIe c14
      refine VW.iconst (pc' := 26) d_Model_group_25 rfl (by decide) ?_
      refine VW.goto (pc' := 30) d_Model_group_26 rfl ?_
      refine VW.istore (pc' := 32) d_Model_group_30 rfl rfl ?_
      refine VW.aload_n (pc' := 33) d_Model_group_32 rfl rfl ?_
      refine VW.aload_n (pc' := 34) d_Model_group_33 rfl rfl ?_
      refine VW.gI (ci := 11) (T := T11) (N := 94) (k := 51) (k' := 51) (pc' := 37) d_Model_group_34 rfl lk_Model_406 in11 rfl rfl rfl rfl (hM.k rfl) (by first | assumption | (simp [up2] <;> rfl) | rfl) ?_
      refine VW.if_eq (tgt := 47) (pc' := 40) d_Model_group_37 rfl rfl (fun c37 => ?_) (fun c37 => ?_)
      · try have e37 := bIe c37
        refine VW.iconst (pc' := 48) d_Model_group_47 rfl (by decide) ?_
        refine VW.goto (pc' := 74) d_Model_group_48 rfl ?_
        refine VW.cV (ci := 11) (T := T11) (N := 94) (pc' := 77) d_Model_group_74 rfl mv_Model_fails lk_Model_254 rfl (hM.k rfl) rfl rfl rfl (Nat.le_refl _) (Nat.le_refl _) (sp_Model_fails hM) rfl rfl ?_
        refine VW.pick [0, 1, 2, 3, 4] ?_
        exact after _ _ (by unfold cd_Model_group; (repeat' split) <;> first | rfl | (exfalso; omega))
      · try have e37 := bIn c37
        refine VW.aload_n (pc' := 41) d_Model_group_40 rfl rfl ?_
        refine VW.cV (ci := 11) (T := T11) (N := 94) (pc' := 44) d_Model_group_41 rfl mv_Model_isFull lk_Model_409 rfl (hM.k rfl) rfl rfl rfl (Nat.le_refl _) (Nat.le_refl _) (sp_Model_isFull hM) rfl rfl ?_
        refine VW.if_eq (tgt := 51) (pc' := 47) d_Model_group_44 rfl rfl (fun c44 => ?_) (fun c44 => ?_)
        · try have e44 := bIe c44
          refine VW.iload (pc' := 53) d_Model_group_51 rfl rfl ?_
          refine VW.if_ne (tgt := 60) (pc' := 56) d_Model_group_53 rfl rfl (fun _ => ?_) (fun c53 => absurd c53 (by decide))
          refine VW.iload_n (pc' := 61) d_Model_group_60 rfl rfl ?_
          refine VW.iconst (pc' := 62) d_Model_group_61 rfl (by decide) ?_
          refine VW.iconst (pc' := 63) d_Model_group_62 rfl (by decide) ?_
          refine VW.cS (pc' := 66) d_Model_group_63 rfl ms_Model_isIn lk_Model_235 rfl rfl rfl (Nat.le_refl _) (Nat.le_refl _) (sp_Model_isIn) rfl rfl ?_
          refine VW.if_eq (tgt := 73) (pc' := 69) d_Model_group_66 rfl rfl (fun c66 => ?_) (fun c66 => ?_)
          · try have e66 := bIe c66
            refine VW.iconst (pc' := 74) d_Model_group_73 rfl (by decide) ?_
            refine VW.cV (ci := 11) (T := T11) (N := 94) (pc' := 77) d_Model_group_74 rfl mv_Model_fails lk_Model_254 rfl (hM.k rfl) rfl rfl rfl (Nat.le_refl _) (Nat.le_refl _) (sp_Model_fails hM) rfl rfl ?_
            refine VW.pick [0, 1, 2, 3, 4] ?_
            exact after _ _ (by unfold cd_Model_group; (repeat' split) <;> first | rfl | (exfalso; omega))
          · try have e66 := bIn c66
            refine VW.iconst (pc' := 70) d_Model_group_69 rfl (by decide) ?_
            refine VW.goto (pc' := 74) d_Model_group_70 rfl ?_
            refine VW.cV (ci := 11) (T := T11) (N := 94) (pc' := 77) d_Model_group_74 rfl mv_Model_fails lk_Model_254 rfl (hM.k rfl) rfl rfl rfl (Nat.le_refl _) (Nat.le_refl _) (sp_Model_fails hM) rfl rfl ?_
            refine VW.pick [0, 1, 2, 3, 4] ?_
            exact after _ _ (by unfold cd_Model_group; (repeat' split) <;> first | rfl | (exfalso; omega))
        · try have e44 := bIn c44
          refine VW.iconst (pc' := 48) d_Model_group_47 rfl (by decide) ?_
          refine VW.goto (pc' := 74) d_Model_group_48 rfl ?_
          refine VW.cV (ci := 11) (T := T11) (N := 94) (pc' := 77) d_Model_group_74 rfl mv_Model_fails lk_Model_254 rfl (hM.k rfl) rfl rfl rfl (Nat.le_refl _) (Nat.le_refl _) (sp_Model_fails hM) rfl rfl ?_
          refine VW.pick [0, 1, 2, 3, 4] ?_
          exact after _ _ (by unfold cd_Model_group; (repeat' split) <;> first | rfl | (exfalso; omega))
    · try have e14 := bIn c14
      refine VW.aload_n (pc' := 18) d_Model_group_17 rfl rfl ?_
      refine VW.iload_n (pc' := 19) d_Model_group_18 rfl rfl ?_
      refine VW.cV (ci := 11) (T := T11) (N := 94) (pc' := 22) d_Model_group_19 rfl mv_Model_isOfLast lk_Model_419 rfl (hM.k rfl) rfl rfl rfl (Nat.le_refl _) (Nat.le_refl _) (sp_Model_isOfLast hM hq) rfl rfl ?_
      refine VW.if_eq (tgt := 29) (pc' := 25) d_Model_group_22 rfl rfl (fun c22 => ?_) (fun c22 => ?_)
      · try have e22 := bIe c22
        refine VW.iconst (pc' := 30) d_Model_group_29 rfl (by decide) ?_
        refine VW.istore (pc' := 32) d_Model_group_30 rfl rfl ?_
        refine VW.aload_n (pc' := 33) d_Model_group_32 rfl rfl ?_
        refine VW.aload_n (pc' := 34) d_Model_group_33 rfl rfl ?_
        refine VW.gI (ci := 11) (T := T11) (N := 94) (k := 51) (k' := 51) (pc' := 37) d_Model_group_34 rfl lk_Model_406 in11 rfl rfl rfl rfl (hM.k rfl) (by first | assumption | (simp [up2] <;> rfl) | rfl) ?_
        refine VW.if_eq (tgt := 47) (pc' := 40) d_Model_group_37 rfl rfl (fun c37 => ?_) (fun c37 => ?_)
        · try have e37 := bIe c37
          refine VW.iconst (pc' := 48) d_Model_group_47 rfl (by decide) ?_
          refine VW.goto (pc' := 74) d_Model_group_48 rfl ?_
          refine VW.cV (ci := 11) (T := T11) (N := 94) (pc' := 77) d_Model_group_74 rfl mv_Model_fails lk_Model_254 rfl (hM.k rfl) rfl rfl rfl (Nat.le_refl _) (Nat.le_refl _) (sp_Model_fails hM) rfl rfl ?_
          refine VW.pick [0, 1, 2, 3, 4] ?_
          exact after _ _ (by unfold cd_Model_group; (repeat' split) <;> first | rfl | (exfalso; omega))
        · try have e37 := bIn c37
          refine VW.aload_n (pc' := 41) d_Model_group_40 rfl rfl ?_
          refine VW.cV (ci := 11) (T := T11) (N := 94) (pc' := 44) d_Model_group_41 rfl mv_Model_isFull lk_Model_409 rfl (hM.k rfl) rfl rfl rfl (Nat.le_refl _) (Nat.le_refl _) (sp_Model_isFull hM) rfl rfl ?_
          refine VW.if_eq (tgt := 51) (pc' := 47) d_Model_group_44 rfl rfl (fun c44 => ?_) (fun c44 => ?_)
          · try have e44 := bIe c44
            refine VW.iload (pc' := 53) d_Model_group_51 rfl rfl ?_
            refine VW.if_ne (tgt := 60) (pc' := 56) d_Model_group_53 rfl rfl (fun c53 => absurd c53 (by decide)) (fun _ => ?_)
            refine VW.iconst (pc' := 57) d_Model_group_56 rfl (by decide) ?_
            refine VW.goto (pc' := 74) d_Model_group_57 rfl ?_
            refine VW.cV (ci := 11) (T := T11) (N := 94) (pc' := 77) d_Model_group_74 rfl mv_Model_fails lk_Model_254 rfl (hM.k rfl) rfl rfl rfl (Nat.le_refl _) (Nat.le_refl _) (sp_Model_fails hM) rfl rfl ?_
            refine VW.pick [0, 1, 2, 3, 4] ?_
            exact after _ _ (by unfold cd_Model_group; (repeat' split) <;> first | rfl | (exfalso; omega))
          · try have e44 := bIn c44
            refine VW.iconst (pc' := 48) d_Model_group_47 rfl (by decide) ?_
            refine VW.goto (pc' := 74) d_Model_group_48 rfl ?_
            refine VW.cV (ci := 11) (T := T11) (N := 94) (pc' := 77) d_Model_group_74 rfl mv_Model_fails lk_Model_254 rfl (hM.k rfl) rfl rfl rfl (Nat.le_refl _) (Nat.le_refl _) (sp_Model_fails hM) rfl rfl ?_
            refine VW.pick [0, 1, 2, 3, 4] ?_
            exact after _ _ (by unfold cd_Model_group; (repeat' split) <;> first | rfl | (exfalso; omega))
      · try have e22 := bIn c22
        refine VW.iconst (pc' := 26) d_Model_group_25 rfl (by decide) ?_
        refine VW.goto (pc' := 30) d_Model_group_26 rfl ?_
        refine VW.istore (pc' := 32) d_Model_group_30 rfl rfl ?_
        refine VW.aload_n (pc' := 33) d_Model_group_32 rfl rfl ?_
        refine VW.aload_n (pc' := 34) d_Model_group_33 rfl rfl ?_
        refine VW.gI (ci := 11) (T := T11) (N := 94) (k := 51) (k' := 51) (pc' := 37) d_Model_group_34 rfl lk_Model_406 in11 rfl rfl rfl rfl (hM.k rfl) (by first | assumption | (simp [up2] <;> rfl) | rfl) ?_
        refine VW.if_eq (tgt := 47) (pc' := 40) d_Model_group_37 rfl rfl (fun c37 => ?_) (fun c37 => ?_)
        · try have e37 := bIe c37
          refine VW.iconst (pc' := 48) d_Model_group_47 rfl (by decide) ?_
          refine VW.goto (pc' := 74) d_Model_group_48 rfl ?_
          refine VW.cV (ci := 11) (T := T11) (N := 94) (pc' := 77) d_Model_group_74 rfl mv_Model_fails lk_Model_254 rfl (hM.k rfl) rfl rfl rfl (Nat.le_refl _) (Nat.le_refl _) (sp_Model_fails hM) rfl rfl ?_
          refine VW.pick [0, 1, 2, 3, 4] ?_
          exact after _ _ (by unfold cd_Model_group; (repeat' split) <;> first | rfl | (exfalso; omega))
        · try have e37 := bIn c37
          refine VW.aload_n (pc' := 41) d_Model_group_40 rfl rfl ?_
          refine VW.cV (ci := 11) (T := T11) (N := 94) (pc' := 44) d_Model_group_41 rfl mv_Model_isFull lk_Model_409 rfl (hM.k rfl) rfl rfl rfl (Nat.le_refl _) (Nat.le_refl _) (sp_Model_isFull hM) rfl rfl ?_
          refine VW.if_eq (tgt := 51) (pc' := 47) d_Model_group_44 rfl rfl (fun c44 => ?_) (fun c44 => ?_)
          · try have e44 := bIe c44
            refine VW.iload (pc' := 53) d_Model_group_51 rfl rfl ?_
            refine VW.if_ne (tgt := 60) (pc' := 56) d_Model_group_53 rfl rfl (fun _ => ?_) (fun c53 => absurd c53 (by decide))
            refine VW.iload_n (pc' := 61) d_Model_group_60 rfl rfl ?_
            refine VW.iconst (pc' := 62) d_Model_group_61 rfl (by decide) ?_
            refine VW.iconst (pc' := 63) d_Model_group_62 rfl (by decide) ?_
            refine VW.cS (pc' := 66) d_Model_group_63 rfl ms_Model_isIn lk_Model_235 rfl rfl rfl (Nat.le_refl _) (Nat.le_refl _) (sp_Model_isIn) rfl rfl ?_
            refine VW.if_eq (tgt := 73) (pc' := 69) d_Model_group_66 rfl rfl (fun c66 => ?_) (fun c66 => ?_)
            · try have e66 := bIe c66
              refine VW.iconst (pc' := 74) d_Model_group_73 rfl (by decide) ?_
              refine VW.cV (ci := 11) (T := T11) (N := 94) (pc' := 77) d_Model_group_74 rfl mv_Model_fails lk_Model_254 rfl (hM.k rfl) rfl rfl rfl (Nat.le_refl _) (Nat.le_refl _) (sp_Model_fails hM) rfl rfl ?_
              refine VW.pick [0, 1, 2, 3, 4] ?_
              exact after _ _ (by unfold cd_Model_group; (repeat' split) <;> first | rfl | (exfalso; omega))
            · try have e66 := bIn c66
              refine VW.iconst (pc' := 70) d_Model_group_69 rfl (by decide) ?_
              refine VW.goto (pc' := 74) d_Model_group_70 rfl ?_
              refine VW.cV (ci := 11) (T := T11) (N := 94) (pc' := 77) d_Model_group_74 rfl mv_Model_fails lk_Model_254 rfl (hM.k rfl) rfl rfl rfl (Nat.le_refl _) (Nat.le_refl _) (sp_Model_fails hM) rfl rfl ?_
              refine VW.pick [0, 1, 2, 3, 4] ?_
              exact after _ _ (by unfold cd_Model_group; (repeat' split) <;> first | rfl | (exfalso; omega))
          · try have e44 := bIn c44
            refine VW.iconst (pc' := 48) d_Model_group_47 rfl (by decide) ?_
            refine VW.goto (pc' := 74) d_Model_group_48 rfl ?_
            refine VW.cV (ci := 11) (T := T11) (N := 94) (pc' := 77) d_Model_group_74 rfl mv_Model_fails lk_Model_254 rfl (hM.k rfl) rfl rfl rfl (Nat.le_refl _) (Nat.le_refl _) (sp_Model_fails hM) rfl rfl ?_
            refine VW.pick [0, 1, 2, 3, 4] ?_
            exact after _ _ (by unfold cd_Model_group; (repeat' split) <;> first | rfl | (exfalso; omega))
  · refine VW.aload_n (pc' := 6) d_Model_group_5 rfl rfl ?_
    refine VW.iload_n (pc' := 7) d_Model_group_6 rfl rfl ?_
    refine VW.cV (ci := 11) (T := T11) (N := 94) (pc' := 10) d_Model_group_7 rfl mv_Model_isOfLast lk_Model_419 rfl (hM.k rfl) rfl rfl rfl (Nat.le_refl _) (Nat.le_refl _) (sp_Model_isOfLast hM hq) rfl rfl ?_
    refine VW.if_eq (tgt := 29) (pc' := 13) d_Model_group_10 rfl rfl (fun c10 => ?_) (fun c10 => ?_)
    · try have e10 := bIe c10
      refine VW.iconst (pc' := 30) d_Model_group_29 rfl (by decide) ?_
      refine VW.istore (pc' := 32) d_Model_group_30 rfl rfl ?_
      refine VW.aload_n (pc' := 33) d_Model_group_32 rfl rfl ?_
      refine VW.aload_n (pc' := 34) d_Model_group_33 rfl rfl ?_
      refine VW.gI (ci := 11) (T := T11) (N := 94) (k := 51) (k' := 51) (pc' := 37) d_Model_group_34 rfl lk_Model_406 in11 rfl rfl rfl rfl (hM.k rfl) (by first | assumption | (simp [up2] <;> rfl) | rfl) ?_
      refine VW.if_eq (tgt := 47) (pc' := 40) d_Model_group_37 rfl rfl (fun c37 => ?_) (fun c37 => ?_)
      · try have e37 := bIe c37
        refine VW.iconst (pc' := 48) d_Model_group_47 rfl (by decide) ?_
        refine VW.goto (pc' := 74) d_Model_group_48 rfl ?_
        refine VW.cV (ci := 11) (T := T11) (N := 94) (pc' := 77) d_Model_group_74 rfl mv_Model_fails lk_Model_254 rfl (hM.k rfl) rfl rfl rfl (Nat.le_refl _) (Nat.le_refl _) (sp_Model_fails hM) rfl rfl ?_
        refine VW.pick [0, 1, 2, 3, 4] ?_
        exact after _ _ (by unfold cd_Model_group; (repeat' split) <;> first | rfl | (exfalso; omega))
      · try have e37 := bIn c37
        refine VW.aload_n (pc' := 41) d_Model_group_40 rfl rfl ?_
        refine VW.cV (ci := 11) (T := T11) (N := 94) (pc' := 44) d_Model_group_41 rfl mv_Model_isFull lk_Model_409 rfl (hM.k rfl) rfl rfl rfl (Nat.le_refl _) (Nat.le_refl _) (sp_Model_isFull hM) rfl rfl ?_
        refine VW.if_eq (tgt := 51) (pc' := 47) d_Model_group_44 rfl rfl (fun c44 => ?_) (fun c44 => ?_)
        · try have e44 := bIe c44
          refine VW.iload (pc' := 53) d_Model_group_51 rfl rfl ?_
          refine VW.if_ne (tgt := 60) (pc' := 56) d_Model_group_53 rfl rfl (fun c53 => absurd c53 (by decide)) (fun _ => ?_)
          refine VW.iconst (pc' := 57) d_Model_group_56 rfl (by decide) ?_
          refine VW.goto (pc' := 74) d_Model_group_57 rfl ?_
          refine VW.cV (ci := 11) (T := T11) (N := 94) (pc' := 77) d_Model_group_74 rfl mv_Model_fails lk_Model_254 rfl (hM.k rfl) rfl rfl rfl (Nat.le_refl _) (Nat.le_refl _) (sp_Model_fails hM) rfl rfl ?_
          refine VW.pick [0, 1, 2, 3, 4] ?_
          exact after _ _ (by unfold cd_Model_group; (repeat' split) <;> first | rfl | (exfalso; omega))
        · try have e44 := bIn c44
          refine VW.iconst (pc' := 48) d_Model_group_47 rfl (by decide) ?_
          refine VW.goto (pc' := 74) d_Model_group_48 rfl ?_
          refine VW.cV (ci := 11) (T := T11) (N := 94) (pc' := 77) d_Model_group_74 rfl mv_Model_fails lk_Model_254 rfl (hM.k rfl) rfl rfl rfl (Nat.le_refl _) (Nat.le_refl _) (sp_Model_fails hM) rfl rfl ?_
          refine VW.pick [0, 1, 2, 3, 4] ?_
          exact after _ _ (by unfold cd_Model_group; (repeat' split) <;> first | rfl | (exfalso; omega))
    · try have e10 := bIn c10
      refine VW.iload_n (pc' := 14) d_Model_group_13 rfl rfl ?_
      refine VW.if_eq (tgt := 25) (pc' := 17) d_Model_group_14 rfl rfl (fun c14 => ?_) (fun c14 => ?_)
      · try have e14 := bIe c14
        refine VW.iconst (pc' := 26) d_Model_group_25 rfl (by decide) ?_
        refine VW.goto (pc' := 30) d_Model_group_26 rfl ?_
        refine VW.istore (pc' := 32) d_Model_group_30 rfl rfl ?_
        refine VW.aload_n (pc' := 33) d_Model_group_32 rfl rfl ?_
        refine VW.aload_n (pc' := 34) d_Model_group_33 rfl rfl ?_
        refine VW.gI (ci := 11) (T := T11) (N := 94) (k := 51) (k' := 51) (pc' := 37) d_Model_group_34 rfl lk_Model_406 in11 rfl rfl rfl rfl (hM.k rfl) (by first | assumption | (simp [up2] <;> rfl) | rfl) ?_
        refine VW.if_eq (tgt := 47) (pc' := 40) d_Model_group_37 rfl rfl (fun c37 => ?_) (fun c37 => ?_)
        · try have e37 := bIe c37
          refine VW.iconst (pc' := 48) d_Model_group_47 rfl (by decide) ?_
          refine VW.goto (pc' := 74) d_Model_group_48 rfl ?_
          refine VW.cV (ci := 11) (T := T11) (N := 94) (pc' := 77) d_Model_group_74 rfl mv_Model_fails lk_Model_254 rfl (hM.k rfl) rfl rfl rfl (Nat.le_refl _) (Nat.le_refl _) (sp_Model_fails hM) rfl rfl ?_
          refine VW.pick [0, 1, 2, 3, 4] ?_
          exact after _ _ (by unfold cd_Model_group; (repeat' split) <;> first | rfl | (exfalso; omega))
        · try have e37 := bIn c37
          refine VW.aload_n (pc' := 41) d_Model_group_40 rfl rfl ?_
          refine VW.cV (ci := 11) (T := T11) (N := 94) (pc' := 44) d_Model_group_41 rfl mv_Model_isFull lk_Model_409 rfl (hM.k rfl) rfl rfl rfl (Nat.le_refl _) (Nat.le_refl _) (sp_Model_isFull hM) rfl rfl ?_
          refine VW.if_eq (tgt := 51) (pc' := 47) d_Model_group_44 rfl rfl (fun c44 => ?_) (fun c44 => ?_)
          · try have e44 := bIe c44
            refine VW.iload (pc' := 53) d_Model_group_51 rfl rfl ?_
            refine VW.if_ne (tgt := 60) (pc' := 56) d_Model_group_53 rfl rfl (fun _ => ?_) (fun c53 => absurd c53 (by decide))
            refine VW.iload_n (pc' := 61) d_Model_group_60 rfl rfl ?_
            refine VW.iconst (pc' := 62) d_Model_group_61 rfl (by decide) ?_
            refine VW.iconst (pc' := 63) d_Model_group_62 rfl (by decide) ?_
            refine VW.cS (pc' := 66) d_Model_group_63 rfl ms_Model_isIn lk_Model_235 rfl rfl rfl (Nat.le_refl _) (Nat.le_refl _) (sp_Model_isIn) rfl rfl ?_
            refine VW.if_eq (tgt := 73) (pc' := 69) d_Model_group_66 rfl rfl (fun c66 => ?_) (fun c66 => ?_)
            · try have e66 := bIe c66
              refine VW.iconst (pc' := 74) d_Model_group_73 rfl (by decide) ?_
              refine VW.cV (ci := 11) (T := T11) (N := 94) (pc' := 77) d_Model_group_74 rfl mv_Model_fails lk_Model_254 rfl (hM.k rfl) rfl rfl rfl (Nat.le_refl _) (Nat.le_refl _) (sp_Model_fails hM) rfl rfl ?_
              refine VW.pick [0, 1, 2, 3, 4] ?_
              exact after _ _ (by unfold cd_Model_group; (repeat' split) <;> first | rfl | (exfalso; omega))
            · try have e66 := bIn c66
              refine VW.iconst (pc' := 70) d_Model_group_69 rfl (by decide) ?_
              refine VW.goto (pc' := 74) d_Model_group_70 rfl ?_
              refine VW.cV (ci := 11) (T := T11) (N := 94) (pc' := 77) d_Model_group_74 rfl mv_Model_fails lk_Model_254 rfl (hM.k rfl) rfl rfl rfl (Nat.le_refl _) (Nat.le_refl _) (sp_Model_fails hM) rfl rfl ?_
              refine VW.pick [0, 1, 2, 3, 4] ?_
              exact after _ _ (by unfold cd_Model_group; (repeat' split) <;> first | rfl | (exfalso; omega))
          · try have e44 := bIn c44
            refine VW.iconst (pc' := 48) d_Model_group_47 rfl (by decide) ?_
            refine VW.goto (pc' := 74) d_Model_group_48 rfl ?_
            refine VW.cV (ci := 11) (T := T11) (N := 94) (pc' := 77) d_Model_group_74 rfl mv_Model_fails lk_Model_254 rfl (hM.k rfl) rfl rfl rfl (Nat.le_refl _) (Nat.le_refl _) (sp_Model_fails hM) rfl rfl ?_
            refine VW.pick [0, 1, 2, 3, 4] ?_
            exact after _ _ (by unfold cd_Model_group; (repeat' split) <;> first | rfl | (exfalso; omega))
      · try have e14 := bIn c14
        refine VW.aload_n (pc' := 18) d_Model_group_17 rfl rfl ?_
        refine VW.iload_n (pc' := 19) d_Model_group_18 rfl rfl ?_
        refine VW.cV (ci := 11) (T := T11) (N := 94) (pc' := 22) d_Model_group_19 rfl mv_Model_isOfLast lk_Model_419 rfl (hM.k rfl) rfl rfl rfl (Nat.le_refl _) (Nat.le_refl _) (sp_Model_isOfLast hM hq) rfl rfl ?_
        refine VW.if_eq (tgt := 29) (pc' := 25) d_Model_group_22 rfl rfl (fun c22 => ?_) (fun c22 => ?_)
        · try have e22 := bIe c22
          refine VW.iconst (pc' := 30) d_Model_group_29 rfl (by decide) ?_
          refine VW.istore (pc' := 32) d_Model_group_30 rfl rfl ?_
          refine VW.aload_n (pc' := 33) d_Model_group_32 rfl rfl ?_
          refine VW.aload_n (pc' := 34) d_Model_group_33 rfl rfl ?_
          refine VW.gI (ci := 11) (T := T11) (N := 94) (k := 51) (k' := 51) (pc' := 37) d_Model_group_34 rfl lk_Model_406 in11 rfl rfl rfl rfl (hM.k rfl) (by first | assumption | (simp [up2] <;> rfl) | rfl) ?_
          refine VW.if_eq (tgt := 47) (pc' := 40) d_Model_group_37 rfl rfl (fun c37 => ?_) (fun c37 => ?_)
          · try have e37 := bIe c37
            refine VW.iconst (pc' := 48) d_Model_group_47 rfl (by decide) ?_
            refine VW.goto (pc' := 74) d_Model_group_48 rfl ?_
            refine VW.cV (ci := 11) (T := T11) (N := 94) (pc' := 77) d_Model_group_74 rfl mv_Model_fails lk_Model_254 rfl (hM.k rfl) rfl rfl rfl (Nat.le_refl _) (Nat.le_refl _) (sp_Model_fails hM) rfl rfl ?_
            refine VW.pick [0, 1, 2, 3, 4] ?_
            exact after _ _ (by unfold cd_Model_group; (repeat' split) <;> first | rfl | (exfalso; omega))
          · try have e37 := bIn c37
            refine VW.aload_n (pc' := 41) d_Model_group_40 rfl rfl ?_
            refine VW.cV (ci := 11) (T := T11) (N := 94) (pc' := 44) d_Model_group_41 rfl mv_Model_isFull lk_Model_409 rfl (hM.k rfl) rfl rfl rfl (Nat.le_refl _) (Nat.le_refl _) (sp_Model_isFull hM) rfl rfl ?_
            refine VW.if_eq (tgt := 51) (pc' := 47) d_Model_group_44 rfl rfl (fun c44 => ?_) (fun c44 => ?_)
            · try have e44 := bIe c44
              refine VW.iload (pc' := 53) d_Model_group_51 rfl rfl ?_
              refine VW.if_ne (tgt := 60) (pc' := 56) d_Model_group_53 rfl rfl (fun c53 => absurd c53 (by decide)) (fun _ => ?_)
              refine VW.iconst (pc' := 57) d_Model_group_56 rfl (by decide) ?_
              refine VW.goto (pc' := 74) d_Model_group_57 rfl ?_
              refine VW.cV (ci := 11) (T := T11) (N := 94) (pc' := 77) d_Model_group_74 rfl mv_Model_fails lk_Model_254 rfl (hM.k rfl) rfl rfl rfl (Nat.le_refl _) (Nat.le_refl _) (sp_Model_fails hM) rfl rfl ?_
              refine VW.pick [0, 1, 2, 3, 4] ?_
              exact after _ _ (by unfold cd_Model_group; (repeat' split) <;> first | rfl | (exfalso; omega))
            · try have e44 := bIn c44
              refine VW.iconst (pc' := 48) d_Model_group_47 rfl (by decide) ?_
              refine VW.goto (pc' := 74) d_Model_group_48 rfl ?_
              refine VW.cV (ci := 11) (T := T11) (N := 94) (pc' := 77) d_Model_group_74 rfl mv_Model_fails lk_Model_254 rfl (hM.k rfl) rfl rfl rfl (Nat.le_refl _) (Nat.le_refl _) (sp_Model_fails hM) rfl rfl ?_
              refine VW.pick [0, 1, 2, 3, 4] ?_
              exact after _ _ (by unfold cd_Model_group; (repeat' split) <;> first | rfl | (exfalso; omega))
        · try have e22 := bIn c22
          refine VW.iconst (pc' := 26) d_Model_group_25 rfl (by decide) ?_
          refine VW.goto (pc' := 30) d_Model_group_26 rfl ?_
          refine VW.istore (pc' := 32) d_Model_group_30 rfl rfl ?_
          refine VW.aload_n (pc' := 33) d_Model_group_32 rfl rfl ?_
          refine VW.aload_n (pc' := 34) d_Model_group_33 rfl rfl ?_
          refine VW.gI (ci := 11) (T := T11) (N := 94) (k := 51) (k' := 51) (pc' := 37) d_Model_group_34 rfl lk_Model_406 in11 rfl rfl rfl rfl (hM.k rfl) (by first | assumption | (simp [up2] <;> rfl) | rfl) ?_
          refine VW.if_eq (tgt := 47) (pc' := 40) d_Model_group_37 rfl rfl (fun c37 => ?_) (fun c37 => ?_)
          · try have e37 := bIe c37
            refine VW.iconst (pc' := 48) d_Model_group_47 rfl (by decide) ?_
            refine VW.goto (pc' := 74) d_Model_group_48 rfl ?_
            refine VW.cV (ci := 11) (T := T11) (N := 94) (pc' := 77) d_Model_group_74 rfl mv_Model_fails lk_Model_254 rfl (hM.k rfl) rfl rfl rfl (Nat.le_refl _) (Nat.le_refl _) (sp_Model_fails hM) rfl rfl ?_
            refine VW.pick [0, 1, 2, 3, 4] ?_
            exact after _ _ (by unfold cd_Model_group; (repeat' split) <;> first | rfl | (exfalso; omega))
          · try have e37 := bIn c37
            refine VW.aload_n (pc' := 41) d_Model_group_40 rfl rfl ?_
            refine VW.cV (ci := 11) (T := T11) (N := 94) (pc' := 44) d_Model_group_41 rfl mv_Model_isFull lk_Model_409 rfl (hM.k rfl) rfl rfl rfl (Nat.le_refl _) (Nat.le_refl _) (sp_Model_isFull hM) rfl rfl ?_
            refine VW.if_eq (tgt := 51) (pc' := 47) d_Model_group_44 rfl rfl (fun c44 => ?_) (fun c44 => ?_)
            · try have e44 := bIe c44
              refine VW.iload (pc' := 53) d_Model_group_51 rfl rfl ?_
              refine VW.if_ne (tgt := 60) (pc' := 56) d_Model_group_53 rfl rfl (fun _ => ?_) (fun c53 => absurd c53 (by decide))
              refine VW.iload_n (pc' := 61) d_Model_group_60 rfl rfl ?_
              refine VW.iconst (pc' := 62) d_Model_group_61 rfl (by decide) ?_
              refine VW.iconst (pc' := 63) d_Model_group_62 rfl (by decide) ?_
              refine VW.cS (pc' := 66) d_Model_group_63 rfl ms_Model_isIn lk_Model_235 rfl rfl rfl (Nat.le_refl _) (Nat.le_refl _) (sp_Model_isIn) rfl rfl ?_
              refine VW.if_eq (tgt := 73) (pc' := 69) d_Model_group_66 rfl rfl (fun c66 => ?_) (fun c66 => ?_)
              · try have e66 := bIe c66
                refine VW.iconst (pc' := 74) d_Model_group_73 rfl (by decide) ?_
                refine VW.cV (ci := 11) (T := T11) (N := 94) (pc' := 77) d_Model_group_74 rfl mv_Model_fails lk_Model_254 rfl (hM.k rfl) rfl rfl rfl (Nat.le_refl _) (Nat.le_refl _) (sp_Model_fails hM) rfl rfl ?_
                refine VW.pick [0, 1, 2, 3, 4] ?_
                exact after _ _ (by unfold cd_Model_group; (repeat' split) <;> first | rfl | (exfalso; omega))
              · try have e66 := bIn c66
                refine VW.iconst (pc' := 70) d_Model_group_69 rfl (by decide) ?_
                refine VW.goto (pc' := 74) d_Model_group_70 rfl ?_
                refine VW.cV (ci := 11) (T := T11) (N := 94) (pc' := 77) d_Model_group_74 rfl mv_Model_fails lk_Model_254 rfl (hM.k rfl) rfl rfl rfl (Nat.le_refl _) (Nat.le_refl _) (sp_Model_fails hM) rfl rfl ?_
                refine VW.pick [0, 1, 2, 3, 4] ?_
                exact after _ _ (by unfold cd_Model_group; (repeat' split) <;> first | rfl | (exfalso; omega))
            · try have e44 := bIn c44
              refine VW.iconst (pc' := 48) d_Model_group_47 rfl (by decide) ?_
              refine VW.goto (pc' := 74) d_Model_group_48 rfl ?_
              refine VW.cV (ci := 11) (T := T11) (N := 94) (pc' := 77) d_Model_group_74 rfl mv_Model_fails lk_Model_254 rfl (hM.k rfl) rfl rfl rfl (Nat.le_refl _) (Nat.le_refl _) (sp_Model_fails hM) rfl rfl ?_
              refine VW.pick [0, 1, 2, 3, 4] ?_
              exact after _ _ (by unfold cd_Model_group; (repeat' split) <;> first | rfl | (exfalso; omega))
noncomputable def cd_Model_combine (I : IT) (w : Int) : Int := if ¬ (1 < I 100 51 ∧ bI (I 100 52 = 12) = 0 ∧ I 254 (I 100 51 - 2) = I 254 (I 100 51 - 1)) then 1 else if bI (0 ≤ w ∧ w ≤ 2) ≠ 0 then 0 else 2
noncomputable def f_Model_combine  (w : Int) (S : IT) : IT × Int := (up2 (mAdd S 7 w 0 0 0) 100 51 (S 100 51 - 1), S 100 51 - 1)
noncomputable def r_Model_combine  (I : IT) (w : Int) : IT × Int := callR (cd_Model_combine I w) I (f_Model_combine  w)
theorem sp_Model_combine {w : Int} (hM : MW K P) (hq : QB I) : Sp m_Model_combine false (rmv 1 25) (ex K P J (r_Model_combine  I w).1 (.inl (some (vI (r_Model_combine  I w).2)))) K P J I [vR (some 100), vI w] := by
  refine Sp.ofV (by decide) (Or.inr rfl) rfl ?_
  have rest : ∀ a : Int, ∀ S : IT, (S = up2 I 100 93 0) → (cd_Model_combine I w = 0) → ((1 < I 100 51) ∧ (bI (I 100 52 = 12) = 0)) → VW m_Model_combine false (rmv 1 25) (ex K P J (f_Model_combine  w S).1 (.inl (some (vI (f_Model_combine  w S).2)))) K P J S 0 0 77 [(0, vR (some 100)), (1, vI w), (2, vI a)] [] := by
    intro a S eS hcd q
    have u : ∀ (o : Nat) (k : Int), (o ≠ 100 ∨ k ≠ 93) → S o k = I o k := fun o k h => by rw [eS]; exact if_neg (fun z => h.elim (fun y => y z.1) (fun y => y z.2))
    have b0 := hq.op
    have q1 := bIe q.2
    have a52 : 0 ≤ S 100 52 ∧ S 100 52 < 252 := by rw [u 100 52 (by decide)]; omega
    have b1 := hq.tr
    have a51 : 0 < S 100 51 ∧ S 100 51 ≤ 6 := by rw [u 100 51 (by decide)]; omega
    clear u eS q
    refine VW.aload_n (pc' := 78) d_Model_combine_77 rfl rfl ?_
    refine VW.bipush (pc' := 80) d_Model_combine_78 rfl (by decide) ?_
    refine VW.iload_n (pc' := 81) d_Model_combine_80 rfl rfl ?_
    refine VW.iconst (pc' := 82) d_Model_combine_81 rfl (by decide) ?_
    refine VW.iconst (pc' := 83) d_Model_combine_82 rfl (by decide) ?_
    refine VW.iconst (pc' := 84) d_Model_combine_83 rfl (by decide) ?_
    refine VW.cV (ci := 11) (T := T11) (N := 94) (pc' := 87) d_Model_combine_84 rfl mv_Model_adds lk_Model_415 rfl (hM.k rfl) rfl rfl rfl (Nat.le_refl _) (Nat.le_refl _) (sp_Model_adds hM a52 (Or.inl rfl)) rfl rfl ?_
    refine VW.aload_n (pc' := 88) d_Model_combine_87 rfl rfl ?_
    refine VW.dup (pc' := 89) d_Model_combine_88 rfl rfl ?_
    refine VW.gI (ci := 11) (T := T11) (N := 94) (k := 51) (k' := 51) (pc' := 92) d_Model_combine_89 rfl lk_Model_406 in11 rfl rfl rfl rfl (hM.k rfl) (by first | exact up2_eq _ _ _ _ | (simp [up2, mAdd] <;> rfl) | rfl) ?_
    refine VW.iconst (pc' := 93) d_Model_combine_92 rfl (by decide) ?_
    refine VW.isub (pc' := 94) d_Model_combine_93 rfl (by omega) ?_
    refine VW.pI (ci := 11) (T := T11) (N := 94) (k := 51) (k' := 51) (ty := ty11) (pc' := 97) d_Model_combine_94 rfl lk_Model_406 in11 tk11 nm11 rfl rfl rfl rfl rfl rfl (hM.k rfl) ?_
    refine VW.aload_n (pc' := 98) d_Model_combine_97 rfl rfl ?_
    refine VW.gI (ci := 11) (T := T11) (N := 94) (k := 51) (k' := 51) (pc' := 101) d_Model_combine_98 rfl lk_Model_406 in11 rfl rfl rfl rfl (hM.k rfl) (by first | exact up2_eq _ _ _ _ | (simp [up2, mAdd] <;> rfl) | rfl) ?_
    exact VW.iret d_Model_combine_101 rfl rfl (Nat.zero_le _) (Nat.zero_le _) ex_rf
  have after : ∀ a : Int, ∀ z : Int, z = cd_Model_combine I w → VW m_Model_combine false (rmv 1 25) (ex K P J (r_Model_combine  I w).1 (.inl (some (vI (r_Model_combine  I w).2)))) K P J (up2 I 100 93 z) 0 0 72 [(0, vR (some 100)), (1, vI w), (2, vI a)] [vI (bI (0 < z))] := by
    intro a z hz
    unfold r_Model_combine
    rw [← hz]
    have q : ¬ 0 < z → (z = 0 ∧ ((1 < I 100 51) ∧ (bI (I 100 52 = 12) = 0))) := by
      intro h0
      have hz' := hz
      unfold cd_Model_combine at hz'
      (repeat' split at hz') <;> first | (exfalso; omega) | (refine ⟨by omega, ?_⟩; first | trivial | omega)
    refine VW.if_eq (tgt := 77) (pc' := 75) d_Model_combine_72 rfl rfl (fun c72 => ?_) (fun c72 => ?_)
    · try have e72 := bIe c72
      refine VW.nrm ?_
      rw [callR_0 e72]
      have qq := q e72
      have hz2 := hz.symm.trans qq.1
      rw [qq.1]
      exact rest _ _ rfl hz2 qq.2
    · try have e72 := bIn c72
      refine VW.iconst (pc' := 76) d_Model_combine_75 rfl (by decide) ?_
      exact VW.iret d_Model_combine_76 rfl rfl (Nat.zero_le _) (Nat.zero_le _) (ex_r (callR_1 e72))
  have b0 := hq.tr
  have b1 := hq.op
  have b2 := hq.sc
  refine VW.aload_n (pc' := 1) d_Model_combine_0 rfl rfl ?_
  refine VW.gI (ci := 11) (T := T11) (N := 94) (k := 51) (k' := 51) (pc' := 4) d_Model_combine_1 rfl lk_Model_406 in11 rfl rfl rfl rfl (hM.k rfl) (by first | assumption | (simp [up2] <;> rfl) | rfl) ?_
  refine VW.iconst (pc' := 5) d_Model_combine_4 rfl (by decide) ?_
  refine VW.icmp_le (tgt := 44) (pc' := 8) d_Model_combine_5 rfl rfl (fun c5 => ?_) (fun c5 => ?_)
  · refine VW.iconst (pc' := 45) d_Model_combine_44 rfl (by decide) ?_
    refine VW.istore_n (pc' := 46) d_Model_combine_45 rfl rfl ?_
    refine VW.aload_n (pc' := 47) d_Model_combine_46 rfl rfl ?_
    refine VW.iload_n (pc' := 48) d_Model_combine_47 rfl rfl ?_
    refine VW.if_ne (tgt := 55) (pc' := 51) d_Model_combine_48 rfl rfl (fun c48 => absurd c48 (by decide)) (fun _ => ?_)
    refine VW.iconst (pc' := 52) d_Model_combine_51 rfl (by decide) ?_
    refine VW.goto (pc' := 69) d_Model_combine_52 rfl ?_
    refine VW.cV (ci := 11) (T := T11) (N := 94) (pc' := 72) d_Model_combine_69 rfl mv_Model_fails lk_Model_254 rfl (hM.k rfl) rfl rfl rfl (Nat.le_refl _) (Nat.le_refl _) (sp_Model_fails hM) rfl rfl ?_
    refine VW.pick [0, 1, 2] ?_
    exact after _ _ (by unfold cd_Model_combine; (repeat' split) <;> first | rfl | (exfalso; omega))
  · refine VW.aload_n (pc' := 9) d_Model_combine_8 rfl rfl ?_
    refine VW.cV (ci := 11) (T := T11) (N := 94) (pc' := 12) d_Model_combine_9 rfl mv_Model_isFull lk_Model_409 rfl (hM.k rfl) rfl rfl rfl (Nat.le_refl _) (Nat.le_refl _) (sp_Model_isFull hM) rfl rfl ?_
    refine VW.if_ne (tgt := 44) (pc' := 15) d_Model_combine_12 rfl rfl (fun c12 => ?_) (fun c12 => ?_)
    · try have e12 := bIn c12
      refine VW.iconst (pc' := 45) d_Model_combine_44 rfl (by decide) ?_
      refine VW.istore_n (pc' := 46) d_Model_combine_45 rfl rfl ?_
      refine VW.aload_n (pc' := 47) d_Model_combine_46 rfl rfl ?_
      refine VW.iload_n (pc' := 48) d_Model_combine_47 rfl rfl ?_
      refine VW.if_ne (tgt := 55) (pc' := 51) d_Model_combine_48 rfl rfl (fun c48 => absurd c48 (by decide)) (fun _ => ?_)
      refine VW.iconst (pc' := 52) d_Model_combine_51 rfl (by decide) ?_
      refine VW.goto (pc' := 69) d_Model_combine_52 rfl ?_
      refine VW.cV (ci := 11) (T := T11) (N := 94) (pc' := 72) d_Model_combine_69 rfl mv_Model_fails lk_Model_254 rfl (hM.k rfl) rfl rfl rfl (Nat.le_refl _) (Nat.le_refl _) (sp_Model_fails hM) rfl rfl ?_
      refine VW.pick [0, 1, 2] ?_
      exact after _ _ (by unfold cd_Model_combine; (repeat' split) <;> first | rfl | (exfalso; omega))
    · try have e12 := bIe c12
      refine VW.aload_n (pc' := 16) d_Model_combine_15 rfl rfl ?_
      refine VW.gP (ci := 11) (T := T11) (N := 94) (k := 54) (k' := 54) (pc' := 19) d_Model_combine_16 rfl lk_Model_141 in11 rfl rfl rfl rfl (hM.k rfl) (hM.p (r := some 254) 54 rfl rfl) ?_
      refine VW.aload_n (pc' := 20) d_Model_combine_19 rfl rfl ?_
      refine VW.gI (ci := 11) (T := T11) (N := 94) (k := 51) (k' := 51) (pc' := 23) d_Model_combine_20 rfl lk_Model_406 in11 rfl rfl rfl rfl (hM.k rfl) (by first | assumption | (simp [up2] <;> rfl) | rfl) ?_
      refine VW.iconst (pc' := 24) d_Model_combine_23 rfl (by decide) ?_
      refine VW.isub (pc' := 25) d_Model_combine_24 rfl (by omega) ?_
      refine VW.ild (pc' := 26) d_Model_combine_25 rfl (hM.k rfl) (by omega) (by omega) (by first | assumption | (simp [up2] <;> rfl) | rfl) ?_
      refine VW.aload_n (pc' := 27) d_Model_combine_26 rfl rfl ?_
      refine VW.gP (ci := 11) (T := T11) (N := 94) (k := 54) (k' := 54) (pc' := 30) d_Model_combine_27 rfl lk_Model_141 in11 rfl rfl rfl rfl (hM.k rfl) (hM.p (r := some 254) 54 rfl rfl) ?_
      refine VW.aload_n (pc' := 31) d_Model_combine_30 rfl rfl ?_
      refine VW.gI (ci := 11) (T := T11) (N := 94) (k := 51) (k' := 51) (pc' := 34) d_Model_combine_31 rfl lk_Model_406 in11 rfl rfl rfl rfl (hM.k rfl) (by first | assumption | (simp [up2] <;> rfl) | rfl) ?_
      refine VW.iconst (pc' := 35) d_Model_combine_34 rfl (by decide) ?_
      refine VW.isub (pc' := 36) d_Model_combine_35 rfl (by omega) ?_
      refine VW.ild (pc' := 37) d_Model_combine_36 rfl (hM.k rfl) (by omega) (by omega) (by first | assumption | (simp [up2] <;> rfl) | rfl) ?_
      refine VW.icmp_ne (tgt := 44) (pc' := 40) d_Model_combine_37 rfl rfl (fun c37 => ?_) (fun c37 => ?_)
      · refine VW.iconst (pc' := 45) d_Model_combine_44 rfl (by decide) ?_
        refine VW.istore_n (pc' := 46) d_Model_combine_45 rfl rfl ?_
        refine VW.aload_n (pc' := 47) d_Model_combine_46 rfl rfl ?_
        refine VW.iload_n (pc' := 48) d_Model_combine_47 rfl rfl ?_
        refine VW.if_ne (tgt := 55) (pc' := 51) d_Model_combine_48 rfl rfl (fun c48 => absurd c48 (by decide)) (fun _ => ?_)
        refine VW.iconst (pc' := 52) d_Model_combine_51 rfl (by decide) ?_
        refine VW.goto (pc' := 69) d_Model_combine_52 rfl ?_
        refine VW.cV (ci := 11) (T := T11) (N := 94) (pc' := 72) d_Model_combine_69 rfl mv_Model_fails lk_Model_254 rfl (hM.k rfl) rfl rfl rfl (Nat.le_refl _) (Nat.le_refl _) (sp_Model_fails hM) rfl rfl ?_
        refine VW.pick [0, 1, 2] ?_
        exact after _ _ (by unfold cd_Model_combine; (repeat' split) <;> first | rfl | (exfalso; omega))
      · refine VW.iconst (pc' := 41) d_Model_combine_40 rfl (by decide) ?_
        refine VW.goto (pc' := 45) d_Model_combine_41 rfl ?_
        refine VW.istore_n (pc' := 46) d_Model_combine_45 rfl rfl ?_
        refine VW.aload_n (pc' := 47) d_Model_combine_46 rfl rfl ?_
        refine VW.iload_n (pc' := 48) d_Model_combine_47 rfl rfl ?_
        refine VW.if_ne (tgt := 55) (pc' := 51) d_Model_combine_48 rfl rfl (fun _ => ?_) (fun c48 => absurd c48 (by decide))
        refine VW.iload_n (pc' := 56) d_Model_combine_55 rfl rfl ?_
        refine VW.iconst (pc' := 57) d_Model_combine_56 rfl (by decide) ?_
        refine VW.iconst (pc' := 58) d_Model_combine_57 rfl (by decide) ?_
        refine VW.cS (pc' := 61) d_Model_combine_58 rfl ms_Model_isIn lk_Model_235 rfl rfl rfl (Nat.le_refl _) (Nat.le_refl _) (sp_Model_isIn) rfl rfl ?_
        refine VW.if_eq (tgt := 68) (pc' := 64) d_Model_combine_61 rfl rfl (fun c61 => ?_) (fun c61 => ?_)
        · try have e61 := bIe c61
          refine VW.iconst (pc' := 69) d_Model_combine_68 rfl (by decide) ?_
          refine VW.cV (ci := 11) (T := T11) (N := 94) (pc' := 72) d_Model_combine_69 rfl mv_Model_fails lk_Model_254 rfl (hM.k rfl) rfl rfl rfl (Nat.le_refl _) (Nat.le_refl _) (sp_Model_fails hM) rfl rfl ?_
          refine VW.pick [0, 1, 2] ?_
          exact after _ _ (by unfold cd_Model_combine; (repeat' split) <;> first | rfl | (exfalso; omega))
        · try have e61 := bIn c61
          refine VW.iconst (pc' := 65) d_Model_combine_64 rfl (by decide) ?_
          refine VW.goto (pc' := 69) d_Model_combine_65 rfl ?_
          refine VW.cV (ci := 11) (T := T11) (N := 94) (pc' := 72) d_Model_combine_69 rfl mv_Model_fails lk_Model_254 rfl (hM.k rfl) rfl rfl rfl (Nat.le_refl _) (Nat.le_refl _) (sp_Model_fails hM) rfl rfl ?_
          refine VW.pick [0, 1, 2] ?_
          exact after _ _ (by unfold cd_Model_combine; (repeat' split) <;> first | rfl | (exfalso; omega))
theorem pw10 {n : Int} (h0 : 0 ≤ n) (h1 : n ≤ 10) : 1 ≤ (2 : Int) ^ n.toNat ∧ (2 : Int) ^ n.toNat ≤ 1024 := by
  have : ∀ k : Fin 11, 1 ≤ (2 : Int) ^ k.val ∧ (2 : Int) ^ k.val ≤ 1024 := by decide
  exact this ⟨n.toNat, by omega⟩
noncomputable def cd_Model_keep (I : IT) (s : Int) : Int := if I 100 51 = 0 ∨ bI (I 100 52 = 12) ≠ 0 then 1 else if bI (1 ≤ s ∧ s ≤ 2 ^ (I 254 (I 100 51 - 1)).toNat - 1) ≠ 0 then 0 else 2
noncomputable def f_Model_keep  (s : Int) (S : IT) : IT × Int := (up2 (mAdd S 5 s 0 0 0) 254 (S 100 51 - 1) (mCnt s 31), S 100 51)
noncomputable def r_Model_keep  (I : IT) (s : Int) : IT × Int := callR (cd_Model_keep I s) I (f_Model_keep  s)
theorem sp_Model_keep {s : Int} (hM : MW K P) (hq : QB I) : Sp m_Model_keep false (rmv 1 25) (ex K P J (r_Model_keep  I s).1 (.inl (some (vI (r_Model_keep  I s).2)))) K P J I [vR (some 100), vI s] := by
  refine Sp.ofV (by decide) (Or.inr rfl) rfl ?_
  have rest : ∀ a : Int, ∀ S : IT, (S = up2 I 100 93 0) → (cd_Model_keep I s = 0) → ((I 100 51 ≠ 0) ∧ (bI (I 100 52 = 12) = 0) ∧ (bI (1 ≤ s ∧ s ≤ 2 ^ (I 254 (I 100 51 - 1)).toNat - 1) ≠ 0)) → VW m_Model_keep false (rmv 1 25) (ex K P J (f_Model_keep  s S).1 (.inl (some (vI (f_Model_keep  s S).2)))) K P J S 0 0 72 [(0, vR (some 100)), (1, vI s), (2, vI a)] [] := by
    intro a S eS hcd q
    have u : ∀ (o : Nat) (k : Int), (o ≠ 100 ∨ k ≠ 93) → S o k = I o k := fun o k h => by rw [eS]; exact if_neg (fun z => h.elim (fun y => y z.1) (fun y => y z.2))
    have b0 := hq.op
    have q1 := bIe q.2.1
    have a52 : 0 ≤ S 100 52 ∧ S 100 52 < 252 := by rw [u 100 52 (by decide)]; omega
    have b1 := hq.tr
    have a51 : 0 < S 100 51 ∧ S 100 51 ≤ 6 := by rw [u 100 51 (by decide)]; omega
    have w0 := hq.wd (I 100 51 - 1)
    have w1 := pw10 w0.1 w0.2
    have q3 := bIn q.2.2
    clear u eS q
    refine VW.aload_n (pc' := 73) d_Model_keep_72 rfl rfl ?_
    refine VW.iconst (pc' := 74) d_Model_keep_73 rfl (by decide) ?_
    refine VW.iload_n (pc' := 75) d_Model_keep_74 rfl rfl ?_
    refine VW.iconst (pc' := 76) d_Model_keep_75 rfl (by decide) ?_
    refine VW.iconst (pc' := 77) d_Model_keep_76 rfl (by decide) ?_
    refine VW.iconst (pc' := 78) d_Model_keep_77 rfl (by decide) ?_
    refine VW.cV (ci := 11) (T := T11) (N := 94) (pc' := 81) d_Model_keep_78 rfl mv_Model_adds lk_Model_415 rfl (hM.k rfl) rfl rfl rfl (Nat.le_refl _) (Nat.le_refl _) (sp_Model_adds hM a52 (Or.inl rfl)) rfl rfl ?_
    refine VW.aload_n (pc' := 82) d_Model_keep_81 rfl rfl ?_
    refine VW.gP (ci := 11) (T := T11) (N := 94) (k := 54) (k' := 54) (pc' := 85) d_Model_keep_82 rfl lk_Model_141 in11 rfl rfl rfl rfl (hM.k rfl) (hM.p (r := some 254) 54 rfl rfl) ?_
    refine VW.aload_n (pc' := 86) d_Model_keep_85 rfl rfl ?_
    refine VW.gI (ci := 11) (T := T11) (N := 94) (k := 51) (k' := 51) (pc' := 89) d_Model_keep_86 rfl lk_Model_406 in11 rfl rfl rfl rfl (hM.k rfl) (by first | (simp [up2, mAdd] <;> rfl) | rfl) ?_
    refine VW.iconst (pc' := 90) d_Model_keep_89 rfl (by decide) ?_
    refine VW.isub (pc' := 91) d_Model_keep_90 rfl (by omega) ?_
    refine VW.iload_n (pc' := 92) d_Model_keep_91 rfl rfl ?_
    refine VW.cS (pc' := 95) d_Model_keep_92 rfl ms_Model_counted lk_Model_422 rfl rfl rfl (Nat.le_refl _) (Nat.le_refl _) (sp_Model_counted (by omega)) rfl rfl ?_
    refine VW.iast (pc' := 96) d_Model_keep_95 rfl (hM.k rfl) (by omega) (by omega) ?_
    refine VW.aload_n (pc' := 97) d_Model_keep_96 rfl rfl ?_
    refine VW.gI (ci := 11) (T := T11) (N := 94) (k := 51) (k' := 51) (pc' := 100) d_Model_keep_97 rfl lk_Model_406 in11 rfl rfl rfl rfl (hM.k rfl) (by first | (simp [up2, mAdd] <;> rfl) | rfl) ?_
    exact VW.iret d_Model_keep_100 rfl rfl (Nat.zero_le _) (Nat.zero_le _) ex_rf
  have after : ∀ a : Int, ∀ z : Int, z = cd_Model_keep I s → VW m_Model_keep false (rmv 1 25) (ex K P J (r_Model_keep  I s).1 (.inl (some (vI (r_Model_keep  I s).2)))) K P J (up2 I 100 93 z) 0 0 67 [(0, vR (some 100)), (1, vI s), (2, vI a)] [vI (bI (0 < z))] := by
    intro a z hz
    unfold r_Model_keep
    rw [← hz]
    have q : ¬ 0 < z → (z = 0 ∧ ((I 100 51 ≠ 0) ∧ (bI (I 100 52 = 12) = 0) ∧ (bI (1 ≤ s ∧ s ≤ 2 ^ (I 254 (I 100 51 - 1)).toNat - 1) ≠ 0))) := by
      intro h0
      have hz' := hz
      unfold cd_Model_keep at hz'
      (repeat' split at hz') <;> first | (exfalso; omega) | (refine ⟨by omega, ?_⟩; first | trivial | omega)
    refine VW.if_eq (tgt := 72) (pc' := 70) d_Model_keep_67 rfl rfl (fun c67 => ?_) (fun c67 => ?_)
    · try have e67 := bIe c67
      refine VW.nrm ?_
      rw [callR_0 e67]
      have qq := q e67
      have hz2 := hz.symm.trans qq.1
      rw [qq.1]
      exact rest _ _ rfl hz2 qq.2
    · try have e67 := bIn c67
      refine VW.iconst (pc' := 71) d_Model_keep_70 rfl (by decide) ?_
      exact VW.iret d_Model_keep_71 rfl rfl (Nat.zero_le _) (Nat.zero_le _) (ex_r (callR_1 e67))
  have b0 := hq.tr
  have b1 := hq.op
  have b2 := hq.sc
  have w0 := hq.wd (I 100 51 - 1)
  have w1 := pw10 w0.1 w0.2
  refine VW.aload_n (pc' := 1) d_Model_keep_0 rfl rfl ?_
  refine VW.gI (ci := 11) (T := T11) (N := 94) (k := 51) (k' := 51) (pc' := 4) d_Model_keep_1 rfl lk_Model_406 in11 rfl rfl rfl rfl (hM.k rfl) (by first | assumption | (simp [up2] <;> rfl) | rfl) ?_
  refine VW.if_le (tgt := 34) (pc' := 7) d_Model_keep_4 rfl rfl (fun c4 => ?_) (fun c4 => ?_)
  · refine VW.iconst (pc' := 35) d_Model_keep_34 rfl (by decide) ?_
    refine VW.istore_n (pc' := 36) d_Model_keep_35 rfl rfl ?_
    refine VW.aload_n (pc' := 37) d_Model_keep_36 rfl rfl ?_
    refine VW.aload_n (pc' := 38) d_Model_keep_37 rfl rfl ?_
    refine VW.gI (ci := 11) (T := T11) (N := 94) (k := 51) (k' := 51) (pc' := 41) d_Model_keep_38 rfl lk_Model_406 in11 rfl rfl rfl rfl (hM.k rfl) (by first | assumption | (simp [up2] <;> rfl) | rfl) ?_
    refine VW.if_eq (tgt := 51) (pc' := 44) d_Model_keep_41 rfl rfl (fun c41 => ?_) (fun c41 => ?_)
    · try have e41 := bIe c41
      refine VW.iconst (pc' := 52) d_Model_keep_51 rfl (by decide) ?_
      refine VW.goto (pc' := 64) d_Model_keep_52 rfl ?_
      refine VW.cV (ci := 11) (T := T11) (N := 94) (pc' := 67) d_Model_keep_64 rfl mv_Model_fails lk_Model_254 rfl (hM.k rfl) rfl rfl rfl (Nat.le_refl _) (Nat.le_refl _) (sp_Model_fails hM) rfl rfl ?_
      refine VW.pick [0, 1, 2] ?_
      exact after _ _ (by unfold cd_Model_keep; (repeat' split) <;> first | rfl | (exfalso; omega))
    · try have e41 := bIn c41
      refine VW.aload_n (pc' := 45) d_Model_keep_44 rfl rfl ?_
      refine VW.cV (ci := 11) (T := T11) (N := 94) (pc' := 48) d_Model_keep_45 rfl mv_Model_isFull lk_Model_409 rfl (hM.k rfl) rfl rfl rfl (Nat.le_refl _) (Nat.le_refl _) (sp_Model_isFull hM) rfl rfl ?_
      refine VW.if_eq (tgt := 55) (pc' := 51) d_Model_keep_48 rfl rfl (fun c48 => ?_) (fun c48 => ?_)
      · try have e48 := bIe c48
        refine VW.iload_n (pc' := 56) d_Model_keep_55 rfl rfl ?_
        refine VW.if_eq (tgt := 63) (pc' := 59) d_Model_keep_56 rfl rfl (fun _ => ?_) (fun c56 => absurd c56 (by decide))
        refine VW.iconst (pc' := 64) d_Model_keep_63 rfl (by decide) ?_
        refine VW.cV (ci := 11) (T := T11) (N := 94) (pc' := 67) d_Model_keep_64 rfl mv_Model_fails lk_Model_254 rfl (hM.k rfl) rfl rfl rfl (Nat.le_refl _) (Nat.le_refl _) (sp_Model_fails hM) rfl rfl ?_
        refine VW.pick [0, 1, 2] ?_
        exact after _ _ (by unfold cd_Model_keep; (repeat' split) <;> first | rfl | (exfalso; omega))
      · try have e48 := bIn c48
        refine VW.iconst (pc' := 52) d_Model_keep_51 rfl (by decide) ?_
        refine VW.goto (pc' := 64) d_Model_keep_52 rfl ?_
        refine VW.cV (ci := 11) (T := T11) (N := 94) (pc' := 67) d_Model_keep_64 rfl mv_Model_fails lk_Model_254 rfl (hM.k rfl) rfl rfl rfl (Nat.le_refl _) (Nat.le_refl _) (sp_Model_fails hM) rfl rfl ?_
        refine VW.pick [0, 1, 2] ?_
        exact after _ _ (by unfold cd_Model_keep; (repeat' split) <;> first | rfl | (exfalso; omega))
  · refine VW.iload_n (pc' := 8) d_Model_keep_7 rfl rfl ?_
    refine VW.iconst (pc' := 9) d_Model_keep_8 rfl (by decide) ?_
    refine VW.iconst (pc' := 10) d_Model_keep_9 rfl (by decide) ?_
    refine VW.aload_n (pc' := 11) d_Model_keep_10 rfl rfl ?_
    refine VW.gP (ci := 11) (T := T11) (N := 94) (k := 54) (k' := 54) (pc' := 14) d_Model_keep_11 rfl lk_Model_141 in11 rfl rfl rfl rfl (hM.k rfl) (hM.p (r := some 254) 54 rfl rfl) ?_
    refine VW.aload_n (pc' := 15) d_Model_keep_14 rfl rfl ?_
    refine VW.gI (ci := 11) (T := T11) (N := 94) (k := 51) (k' := 51) (pc' := 18) d_Model_keep_15 rfl lk_Model_406 in11 rfl rfl rfl rfl (hM.k rfl) (by first | assumption | (simp [up2] <;> rfl) | rfl) ?_
    refine VW.iconst (pc' := 19) d_Model_keep_18 rfl (by decide) ?_
    refine VW.isub (pc' := 20) d_Model_keep_19 rfl (by omega) ?_
    refine VW.ild (pc' := 21) d_Model_keep_20 rfl (hM.k rfl) (by omega) (by omega) (by first | assumption | (simp [up2] <;> rfl) | rfl) ?_
    refine VW.ishl (pc' := 22) (z := 2 ^ (I 254 (I 100 51 - 1)).toNat) d_Model_keep_21 rfl (⟨by omega, by omega⟩) (ishl1 w0.1 (by omega)) ?_
    refine VW.iconst (pc' := 23) d_Model_keep_22 rfl (by decide) ?_
    refine VW.isub (pc' := 24) d_Model_keep_23 rfl (by omega) ?_
    refine VW.cS (pc' := 27) d_Model_keep_24 rfl ms_Model_isIn lk_Model_235 rfl rfl rfl (Nat.le_refl _) (Nat.le_refl _) (sp_Model_isIn) rfl rfl ?_
    refine VW.if_eq (tgt := 34) (pc' := 30) d_Model_keep_27 rfl rfl (fun c27 => ?_) (fun c27 => ?_)
    · try have e27 := bIe c27
      refine VW.iconst (pc' := 35) d_Model_keep_34 rfl (by decide) ?_
      refine VW.istore_n (pc' := 36) d_Model_keep_35 rfl rfl ?_
      refine VW.aload_n (pc' := 37) d_Model_keep_36 rfl rfl ?_
      refine VW.aload_n (pc' := 38) d_Model_keep_37 rfl rfl ?_
      refine VW.gI (ci := 11) (T := T11) (N := 94) (k := 51) (k' := 51) (pc' := 41) d_Model_keep_38 rfl lk_Model_406 in11 rfl rfl rfl rfl (hM.k rfl) (by first | assumption | (simp [up2] <;> rfl) | rfl) ?_
      refine VW.if_eq (tgt := 51) (pc' := 44) d_Model_keep_41 rfl rfl (fun c41 => ?_) (fun c41 => ?_)
      · try have e41 := bIe c41
        refine VW.iconst (pc' := 52) d_Model_keep_51 rfl (by decide) ?_
        refine VW.goto (pc' := 64) d_Model_keep_52 rfl ?_
        refine VW.cV (ci := 11) (T := T11) (N := 94) (pc' := 67) d_Model_keep_64 rfl mv_Model_fails lk_Model_254 rfl (hM.k rfl) rfl rfl rfl (Nat.le_refl _) (Nat.le_refl _) (sp_Model_fails hM) rfl rfl ?_
        refine VW.pick [0, 1, 2] ?_
        exact after _ _ (by unfold cd_Model_keep; (repeat' split) <;> first | rfl | (exfalso; omega))
      · try have e41 := bIn c41
        refine VW.aload_n (pc' := 45) d_Model_keep_44 rfl rfl ?_
        refine VW.cV (ci := 11) (T := T11) (N := 94) (pc' := 48) d_Model_keep_45 rfl mv_Model_isFull lk_Model_409 rfl (hM.k rfl) rfl rfl rfl (Nat.le_refl _) (Nat.le_refl _) (sp_Model_isFull hM) rfl rfl ?_
        refine VW.if_eq (tgt := 55) (pc' := 51) d_Model_keep_48 rfl rfl (fun c48 => ?_) (fun c48 => ?_)
        · try have e48 := bIe c48
          refine VW.iload_n (pc' := 56) d_Model_keep_55 rfl rfl ?_
          refine VW.if_eq (tgt := 63) (pc' := 59) d_Model_keep_56 rfl rfl (fun _ => ?_) (fun c56 => absurd c56 (by decide))
          refine VW.iconst (pc' := 64) d_Model_keep_63 rfl (by decide) ?_
          refine VW.cV (ci := 11) (T := T11) (N := 94) (pc' := 67) d_Model_keep_64 rfl mv_Model_fails lk_Model_254 rfl (hM.k rfl) rfl rfl rfl (Nat.le_refl _) (Nat.le_refl _) (sp_Model_fails hM) rfl rfl ?_
          refine VW.pick [0, 1, 2] ?_
          exact after _ _ (by unfold cd_Model_keep; (repeat' split) <;> first | rfl | (exfalso; omega))
        · try have e48 := bIn c48
          refine VW.iconst (pc' := 52) d_Model_keep_51 rfl (by decide) ?_
          refine VW.goto (pc' := 64) d_Model_keep_52 rfl ?_
          refine VW.cV (ci := 11) (T := T11) (N := 94) (pc' := 67) d_Model_keep_64 rfl mv_Model_fails lk_Model_254 rfl (hM.k rfl) rfl rfl rfl (Nat.le_refl _) (Nat.le_refl _) (sp_Model_fails hM) rfl rfl ?_
          refine VW.pick [0, 1, 2] ?_
          exact after _ _ (by unfold cd_Model_keep; (repeat' split) <;> first | rfl | (exfalso; omega))
    · try have e27 := bIn c27
      refine VW.iconst (pc' := 31) d_Model_keep_30 rfl (by decide) ?_
      refine VW.goto (pc' := 35) d_Model_keep_31 rfl ?_
      refine VW.istore_n (pc' := 36) d_Model_keep_35 rfl rfl ?_
      refine VW.aload_n (pc' := 37) d_Model_keep_36 rfl rfl ?_
      refine VW.aload_n (pc' := 38) d_Model_keep_37 rfl rfl ?_
      refine VW.gI (ci := 11) (T := T11) (N := 94) (k := 51) (k' := 51) (pc' := 41) d_Model_keep_38 rfl lk_Model_406 in11 rfl rfl rfl rfl (hM.k rfl) (by first | assumption | (simp [up2] <;> rfl) | rfl) ?_
      refine VW.if_eq (tgt := 51) (pc' := 44) d_Model_keep_41 rfl rfl (fun c41 => ?_) (fun c41 => ?_)
      · try have e41 := bIe c41
        refine VW.iconst (pc' := 52) d_Model_keep_51 rfl (by decide) ?_
        refine VW.goto (pc' := 64) d_Model_keep_52 rfl ?_
        refine VW.cV (ci := 11) (T := T11) (N := 94) (pc' := 67) d_Model_keep_64 rfl mv_Model_fails lk_Model_254 rfl (hM.k rfl) rfl rfl rfl (Nat.le_refl _) (Nat.le_refl _) (sp_Model_fails hM) rfl rfl ?_
        refine VW.pick [0, 1, 2] ?_
        exact after _ _ (by unfold cd_Model_keep; (repeat' split) <;> first | rfl | (exfalso; omega))
      · try have e41 := bIn c41
        refine VW.aload_n (pc' := 45) d_Model_keep_44 rfl rfl ?_
        refine VW.cV (ci := 11) (T := T11) (N := 94) (pc' := 48) d_Model_keep_45 rfl mv_Model_isFull lk_Model_409 rfl (hM.k rfl) rfl rfl rfl (Nat.le_refl _) (Nat.le_refl _) (sp_Model_isFull hM) rfl rfl ?_
        refine VW.if_eq (tgt := 55) (pc' := 51) d_Model_keep_48 rfl rfl (fun c48 => ?_) (fun c48 => ?_)
        · try have e48 := bIe c48
          refine VW.iload_n (pc' := 56) d_Model_keep_55 rfl rfl ?_
          refine VW.if_eq (tgt := 63) (pc' := 59) d_Model_keep_56 rfl rfl (fun c56 => absurd c56 (by decide)) (fun _ => ?_)
          refine VW.iconst (pc' := 60) d_Model_keep_59 rfl (by decide) ?_
          refine VW.goto (pc' := 64) d_Model_keep_60 rfl ?_
          refine VW.cV (ci := 11) (T := T11) (N := 94) (pc' := 67) d_Model_keep_64 rfl mv_Model_fails lk_Model_254 rfl (hM.k rfl) rfl rfl rfl (Nat.le_refl _) (Nat.le_refl _) (sp_Model_fails hM) rfl rfl ?_
          refine VW.pick [0, 1, 2] ?_
          exact after _ _ (by unfold cd_Model_keep; (repeat' split) <;> first | rfl | (exfalso; omega))
        · try have e48 := bIn c48
          refine VW.iconst (pc' := 52) d_Model_keep_51 rfl (by decide) ?_
          refine VW.goto (pc' := 64) d_Model_keep_52 rfl ?_
          refine VW.cV (ci := 11) (T := T11) (N := 94) (pc' := 67) d_Model_keep_64 rfl mv_Model_fails lk_Model_254 rfl (hM.k rfl) rfl rfl rfl (Nat.le_refl _) (Nat.le_refl _) (sp_Model_fails hM) rfl rfl ?_
          refine VW.pick [0, 1, 2] ?_
          exact after _ _ (by unfold cd_Model_keep; (repeat' split) <;> first | rfl | (exfalso; omega))
end
