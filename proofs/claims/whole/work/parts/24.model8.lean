section
variable {K : KT} {P : PT} {J I : IT}
/-- a transaction's writes noted as undone, the last first: the state and how many -/
noncomputable def mAb (i : Int) : Nat → IT → Int → IT × Int
  | 0, S, c => (S, c)
  | n + 1, S, c => if S 246 n = 0 ∧ S 247 n = i then mAb i n (mnotes S 2 i (S 248 n) (S 249 n)) (c + 1) else mAb i n S c
theorem mAb_yes {i : Int} {n : Nat} {S : IT} {c : Int} (h : S 246 n = 0 ∧ S 247 n = i) : mAb i (n + 1) S c = mAb i n (mnotes S 2 i (S 248 n) (S 249 n)) (c + 1) := if_pos h
theorem mAb_no {i : Int} {n : Nat} {S : IT} {c : Int} (h : ¬ (S 246 n = 0 ∧ S 247 n = i)) : mAb i (n + 1) S c = mAb i n S c := if_neg h
theorem mnotes_44 (S : IT) (a b c d : Int) : mnotes S a b c d 100 44 = S 100 44 + 1 := by simp [mnotes, up2]
theorem mnotes_223 (S : IT) (a b c d k : Int) : mnotes S a b c d 223 k = S 223 k := by simp [mnotes, up2]
theorem mAb_le (i : Int) : ∀ (n : Nat) (S : IT) (c : Int), S 100 44 ≤ (mAb i n S c).1 100 44 := by
  intro n
  induction n with
  | zero => intro S c; exact Int.le_refl _
  | succ n ih =>
    intro S c
    by_cases h : S 246 n = 0 ∧ S 247 n = i
    · rw [mAb_yes h]; have := ih (mnotes S 2 i (S 248 n) (S 249 n)) (c + 1); rw [mnotes_44] at this; omega
    · rw [mAb_no h]; exact ih S c
theorem mAb_223 (i k : Int) : ∀ (n : Nat) (S : IT) (c : Int), (mAb i n S c).1 223 k = S 223 k := by
  intro n
  induction n with
  | zero => intro S c; rfl
  | succ n ih =>
    intro S c
    by_cases h : S 246 n = 0 ∧ S 247 n = i
    · rw [mAb_yes h, ih, mnotes_223]
    · rw [mAb_no h, ih]
theorem mAb_c (i : Int) : ∀ (n : Nat) (S : IT) (c : Int), c ≤ (mAb i n S c).2 ∧ (mAb i n S c).2 ≤ c + n := by
  intro n
  induction n with
  | zero => intro S c; exact ⟨Int.le_refl _, by show c ≤ c + 0; omega⟩
  | succ n ih =>
    intro S c
    by_cases h : S 246 n = 0 ∧ S 247 n = i
    · rw [mAb_yes h]; have := ih (mnotes S 2 i (S 248 n) (S 249 n)) (c + 1); omega
    · rw [mAb_no h]; have := ih S c; omega
noncomputable def mAborts (I : IT) (i : Int) : IT := mends (mnotes (mAb i (I 100 44).toNat I 0).1 3 i (-2147483648) (-2147483648)) i 3
noncomputable def mAbortsN (I : IT) (i : Int) : Int := (mAb i (I 100 44).toNat I 0).2
theorem sp_Model_aborts {i : Int} (hM : MW K P) (hi : 0 ≤ i ∧ i < 60) (hp : 0 ≤ I 223 i ∧ I 223 i < 4) (h0 : 0 ≤ I 100 44) (h1 : (mAb i (I 100 44).toNat I 0).1 100 44 < 16384) : Sp m_Model_aborts false (rmv 1 24) (ex K P J (mAborts I i) (.inl (some (vI (mAbortsN I i))))) K P J I [vR (some 100), vI i] := by
  refine Sp.ofV (by decide) (Or.inr rfl) rfl ?_
  have loop : ∀ (n : Nat) (S : IT) (k c : Int), k + 1 = n → 0 ≤ c → c + n < 20000 → n ≤ S 100 44 → mAb i n S c = mAb i (I 100 44).toNat I 0 → S 223 i = I 223 i → VW m_Model_aborts false (rmv 1 24) (ex K P J (mAborts I i) (.inl (some (vI (mAbortsN I i))))) K P J S 0 0 9 [(0, vR (some 100)), (1, vI i), (2, vI c), (3, vI k)] [] := by
    intro n
    induction n with
    | zero =>
      intro S k c hk hc hc2 hn he hs
      have e : mAb i (I 100 44).toNat I 0 = (S, c) := he.symm
      have l0 := mAb_le i (I 100 44).toNat I 0
      have e1 : mAborts I i = mends (mnotes S 3 i (-2147483648) (-2147483648)) i 3 := by unfold mAborts; rw [e]
      have e2 : mAbortsN I i = c := by unfold mAbortsN; rw [e]
      rw [e] at h1 l0
      have h1' : S 100 44 < 16384 := h1
      have l0' : I 100 44 ≤ S 100 44 := l0
      have p1 := mnotes_223 S 3 i (-2147483648) (-2147483648) i
      refine VW.iload_n (pc' := 10) d_Model_aborts_9 rfl rfl ?_
      refine VW.if_lt (tgt := 59) (pc' := 13) d_Model_aborts_10 rfl rfl (fun c10 => ?_) (fun c10 => ?_)
      · refine VW.aload_n (pc' := 60) d_Model_aborts_59 rfl rfl ?_
        refine VW.iconst (pc' := 61) d_Model_aborts_60 rfl (by decide) ?_
        refine VW.iload_n (pc' := 62) d_Model_aborts_61 rfl rfl ?_
        refine VW.ldc (pc' := 64) (z := -2147483648) d_Model_aborts_62 rfl lk_Model_246 (by decide) (by decide) ?_
        refine VW.ldc (pc' := 66) (z := -2147483648) d_Model_aborts_64 rfl lk_Model_246 (by decide) (by decide) ?_
        refine VW.cV (ci := 11) (T := T11) (N := 94) (pc' := 69) d_Model_aborts_66 rfl mv_Model_notes lk_Model_297 rfl (hM.k rfl) rfl rfl rfl (Nat.le_refl _) (Nat.le_refl _) (sp_Model_notes hM (by omega) (by omega)) rfl rfl ?_
        refine VW.aload_n (pc' := 70) d_Model_aborts_69 rfl rfl ?_
        refine VW.iload_n (pc' := 71) d_Model_aborts_70 rfl rfl ?_
        refine VW.iconst (pc' := 72) d_Model_aborts_71 rfl (by decide) ?_
        refine VW.cV (ci := 11) (T := T11) (N := 94) (pc' := 75) d_Model_aborts_72 rfl mv_Model_ends lk_Model_301 rfl (hM.k rfl) rfl rfl rfl (Nat.le_refl _) (Nat.le_refl _) (sp_Model_ends hM hi (by omega)) rfl rfl ?_
        refine VW.iload_n (pc' := 76) d_Model_aborts_75 rfl rfl ?_
        exact VW.iret d_Model_aborts_76 rfl rfl (Nat.zero_le _) (Nat.zero_le _) (by rw [e1, e2]; exact ex_rf)
      · exfalso; omega
    | succ n ih =>
      intro S k c hk hc hc2 hn he hs
      have ek : k = n := by omega
      subst ek
      have l1 := mAb_le i n (mnotes S 2 i (S 248 n) (S 249 n)) (c + 1)
      rw [mnotes_44] at l1
      have l2 := mAb_le i (n + 1) S c
      rw [he] at l2
      have h3 : S 246 n = 0 → S 247 n = i → S 100 44 + 1 < 16384 := by
        intro a b
        rw [mAb_yes ⟨a, b⟩] at he
        rw [he] at l1
        omega
      refine VW.iload_n (pc' := 10) d_Model_aborts_9 rfl rfl ?_
      refine VW.if_lt (tgt := 59) (pc' := 13) d_Model_aborts_10 rfl rfl (fun c10 => ?_) (fun c10 => ?_)
      · exfalso; omega
      · refine VW.aload_n (pc' := 14) d_Model_aborts_13 rfl rfl ?_
        refine VW.gP (ci := 11) (T := T11) (N := 94) (k := 46) (k' := 46) (pc' := 17) d_Model_aborts_14 rfl lk_Model_126 in11 rfl rfl rfl rfl (hM.k rfl) (hM.p (r := some 246) 46 rfl rfl) ?_
        refine VW.iload_n (pc' := 18) d_Model_aborts_17 rfl rfl ?_
        refine VW.ild (pc' := 19) d_Model_aborts_18 rfl (hM.k rfl) (by omega) (by omega) (by first | assumption | (simp [up2] <;> rfl) | rfl) ?_
        refine VW.if_ne (tgt := 53) (pc' := 22) d_Model_aborts_19 rfl rfl (fun c19 => ?_) (fun c19 => ?_)
        · try have e19 := bIn c19
          refine VW.iinc (pc' := 56) d_Model_aborts_53 rfl rfl rfl (by omega) ?_
          refine VW.goto (pc' := 9) d_Model_aborts_56 rfl ?_
          refine VW.nrm ?_
          first | exact ih _ _ _ (by omega) (by omega) (by omega) (by rw [mnotes_44]; omega) ((mAb_yes ⟨c19, c29⟩).symm.trans he) (by rw [mnotes_223]; exact hs) | exact ih _ _ _ (by omega) (by omega) (by omega) (by omega) ((mAb_no (fun z => c19 z.1)).symm.trans he) hs | exact ih _ _ _ (by omega) (by omega) (by omega) (by omega) ((mAb_no (fun z => c29 z.2)).symm.trans he) hs
        · try have e19 := bIe c19
          refine VW.aload_n (pc' := 23) d_Model_aborts_22 rfl rfl ?_
          refine VW.gP (ci := 11) (T := T11) (N := 94) (k := 47) (k' := 47) (pc' := 26) d_Model_aborts_23 rfl lk_Model_129 in11 rfl rfl rfl rfl (hM.k rfl) (hM.p (r := some 247) 47 rfl rfl) ?_
          refine VW.iload_n (pc' := 27) d_Model_aborts_26 rfl rfl ?_
          refine VW.ild (pc' := 28) d_Model_aborts_27 rfl (hM.k rfl) (by omega) (by omega) (by first | assumption | (simp [up2] <;> rfl) | rfl) ?_
          refine VW.iload_n (pc' := 29) d_Model_aborts_28 rfl rfl ?_
          refine VW.icmp_ne (tgt := 53) (pc' := 32) d_Model_aborts_29 rfl rfl (fun c29 => ?_) (fun c29 => ?_)
          · refine VW.iinc (pc' := 56) d_Model_aborts_53 rfl rfl rfl (by omega) ?_
            refine VW.goto (pc' := 9) d_Model_aborts_56 rfl ?_
            refine VW.nrm ?_
            first | exact ih _ _ _ (by omega) (by omega) (by omega) (by rw [mnotes_44]; omega) ((mAb_yes ⟨c19, c29⟩).symm.trans he) (by rw [mnotes_223]; exact hs) | exact ih _ _ _ (by omega) (by omega) (by omega) (by omega) ((mAb_no (fun z => c19 z.1)).symm.trans he) hs | exact ih _ _ _ (by omega) (by omega) (by omega) (by omega) ((mAb_no (fun z => c29 z.2)).symm.trans he) hs
          · refine VW.aload_n (pc' := 33) d_Model_aborts_32 rfl rfl ?_
            refine VW.iconst (pc' := 34) d_Model_aborts_33 rfl (by decide) ?_
            refine VW.iload_n (pc' := 35) d_Model_aborts_34 rfl rfl ?_
            refine VW.aload_n (pc' := 36) d_Model_aborts_35 rfl rfl ?_
            refine VW.gP (ci := 11) (T := T11) (N := 94) (k := 48) (k' := 48) (pc' := 39) d_Model_aborts_36 rfl lk_Model_132 in11 rfl rfl rfl rfl (hM.k rfl) (hM.p (r := some 248) 48 rfl rfl) ?_
            refine VW.iload_n (pc' := 40) d_Model_aborts_39 rfl rfl ?_
            refine VW.ild (pc' := 41) d_Model_aborts_40 rfl (hM.k rfl) (by omega) (by omega) (by first | assumption | (simp [up2] <;> rfl) | rfl) ?_
            refine VW.aload_n (pc' := 42) d_Model_aborts_41 rfl rfl ?_
            refine VW.gP (ci := 11) (T := T11) (N := 94) (k := 49) (k' := 49) (pc' := 45) d_Model_aborts_42 rfl lk_Model_135 in11 rfl rfl rfl rfl (hM.k rfl) (hM.p (r := some 249) 49 rfl rfl) ?_
            refine VW.iload_n (pc' := 46) d_Model_aborts_45 rfl rfl ?_
            refine VW.ild (pc' := 47) d_Model_aborts_46 rfl (hM.k rfl) (by omega) (by omega) (by first | assumption | (simp [up2] <;> rfl) | rfl) ?_
            have h4 := h3 c19 c29
            refine VW.cV (ci := 11) (T := T11) (N := 94) (pc' := 50) d_Model_aborts_47 rfl mv_Model_notes lk_Model_297 rfl (hM.k rfl) rfl rfl rfl (Nat.le_refl _) (Nat.le_refl _) (sp_Model_notes hM (by omega) (by omega)) rfl rfl ?_
            refine VW.iinc (pc' := 53) d_Model_aborts_50 rfl rfl rfl (by omega) ?_
            refine VW.iinc (pc' := 56) d_Model_aborts_53 rfl rfl rfl (by omega) ?_
            refine VW.goto (pc' := 9) d_Model_aborts_56 rfl ?_
            refine VW.nrm ?_
            first | exact ih _ _ _ (by omega) (by omega) (by omega) (by rw [mnotes_44]; omega) ((mAb_yes ⟨c19, c29⟩).symm.trans he) (by rw [mnotes_223]; exact hs) | exact ih _ _ _ (by omega) (by omega) (by omega) (by omega) ((mAb_no (fun z => c19 z.1)).symm.trans he) hs | exact ih _ _ _ (by omega) (by omega) (by omega) (by omega) ((mAb_no (fun z => c29 z.2)).symm.trans he) hs
  have l3 := mAb_le i (I 100 44).toNat I 0
  refine VW.iconst (pc' := 1) d_Model_aborts_0 rfl (by decide) ?_
  refine VW.istore_n (pc' := 2) d_Model_aborts_1 rfl rfl ?_
  refine VW.aload_n (pc' := 3) d_Model_aborts_2 rfl rfl ?_
  refine VW.gI (ci := 11) (T := T11) (N := 94) (k := 44) (k' := 44) (pc' := 6) d_Model_aborts_3 rfl lk_Model_294 in11 rfl rfl rfl rfl (hM.k rfl) (by first | assumption | (simp [up2] <;> rfl) | rfl) ?_
  refine VW.iconst (pc' := 7) d_Model_aborts_6 rfl (by decide) ?_
  refine VW.isub (pc' := 8) d_Model_aborts_7 rfl (by omega) ?_
  refine VW.istore_n (pc' := 9) d_Model_aborts_8 rfl rfl ?_
  refine VW.nrm ?_
  exact loop (I 100 44).toNat I _ 0 (by omega) (by omega) (by omega) (by omega) rfl rfl
/-- how many hold below n -/
noncomputable def cntI (g : Int → Prop) : Nat → Int
  | 0 => 0
  | n + 1 => cntI g n + bI (g n)
theorem cntI_rg (g : Int → Prop) : ∀ n : Nat, 0 ≤ cntI g n ∧ cntI g n ≤ n := by
  intro n
  induction n with
  | zero => exact ⟨Int.le_refl _, Int.le_refl _⟩
  | succ n ih => have := bI_01 (g n); show 0 ≤ cntI g n + bI (g n) ∧ cntI g n + bI (g n) ≤ _; omega
theorem cntI_yes {g : Int → Prop} {n : Nat} (h : g n) : cntI g n + 1 = cntI g (n + 1) := by show _ = cntI g n + bI (g n); rw [bI1 h]
theorem cntI_no {g : Int → Prop} {n : Nat} (h : ¬ g n) : cntI g n + 0 = cntI g (n + 1) := by show _ = cntI g n + bI (g n); rw [bI0 h]
/-- what a statement wrote is noted as undone: the first sk writes met are skipped -/
noncomputable def mUn (i : Int) : Nat → Int → IT → Int → IT × Int
  | 0, _, S, c => (S, c)
  | n + 1, sk, S, c => if S 246 n = 0 ∧ S 247 n = i then (if 0 < sk then mUn i n (sk - 1) S c else mUn i n sk (mnotes S 2 i (S 248 n) (S 249 n)) (c + 1)) else mUn i n sk S c
theorem mUn_yes {i : Int} {n : Nat} {sk : Int} {S : IT} {c : Int} (h : S 246 n = 0 ∧ S 247 n = i) (h2 : sk ≤ 0) : mUn i (n + 1) sk S c = mUn i n sk (mnotes S 2 i (S 248 n) (S 249 n)) (c + 1) := (if_pos h).trans (if_neg (by omega))
theorem mUn_skip {i : Int} {n : Nat} {sk : Int} {S : IT} {c : Int} (h : S 246 n = 0 ∧ S 247 n = i) (h2 : 0 < sk) : mUn i (n + 1) sk S c = mUn i n (sk - 1) S c := (if_pos h).trans (if_pos h2)
theorem mUn_no {i : Int} {n : Nat} {sk : Int} {S : IT} {c : Int} (h : ¬ (S 246 n = 0 ∧ S 247 n = i)) : mUn i (n + 1) sk S c = mUn i n sk S c := if_neg h
theorem mUn_le (i : Int) : ∀ (n : Nat) (sk : Int) (S : IT) (c : Int), S 100 44 ≤ (mUn i n sk S c).1 100 44 := by
  intro n
  induction n with
  | zero => intro sk S c; exact Int.le_refl _
  | succ n ih =>
    intro sk S c
    by_cases h : S 246 n = 0 ∧ S 247 n = i
    · by_cases h2 : 0 < sk
      · rw [mUn_skip h h2]; exact ih _ _ _
      · rw [mUn_yes h (by omega)]; have := ih sk (mnotes S 2 i (S 248 n) (S 249 n)) (c + 1); rw [mnotes_44] at this; omega
    · rw [mUn_no h]; exact ih _ _ _
def mUnG (I : IT) (i : Int) : Int → Prop := fun j => I 246 j = 2 ∧ I 247 j = i
/-- what undoing leaves before its own record -/
noncomputable def mUnR (I : IT) (i : Int) : IT × Int := mUn i (I 100 44).toNat (cntI (mUnG I i) (I 100 44).toNat) I 0
noncomputable def mUndoes (I : IT) (i : Int) : IT := mnotes (mUnR I i).1 3 i (-2147483648) (-2147483648)
theorem sp_Model_undoes {i : Int} (hM : MW K P) (h0 : 0 ≤ I 100 44) (h1 : (mUnR I i).1 100 44 < 16384) : Sp m_Model_undoes false (rmv 1 24) (ex K P J (mUndoes I i) (.inl (some (vI (mUnR I i).2)))) K P J I [vR (some 100), vI i] := by
  refine Sp.ofV (by decide) (Or.inr rfl) rfl ?_
  have l3 := mUn_le i (I 100 44).toNat (cntI (mUnG I i) (I 100 44).toNat) I 0
  have h1' := h1
  unfold mUnR at h1'
  have loop2 : ∀ (n : Nat) (S : IT) (k sk c : Int), k + 1 = n → 0 ≤ c → c + n < 20000 → n ≤ S 100 44 → -1 ≤ sk → sk < 20000 → mUn i n sk S c = mUnR I i → VW m_Model_undoes false (rmv 1 24) (ex K P J (mUndoes I i) (.inl (some (vI (mUnR I i).2)))) K P J S 0 0 60 [(0, vR (some 100)), (1, vI i), (2, vI sk), (4, vI c), (5, vI k)] [] := by
    intro n
    induction n with
    | zero =>
      intro S k sk c hk hc hc2 hn hs hs2 he
      have e : mUnR I i = (S, c) := he.symm
      have e1 : mUndoes I i = mnotes S 3 i (-2147483648) (-2147483648) := by unfold mUndoes; rw [e]
      rw [e] at h1
      have h2 : S 100 44 < 16384 := h1
      refine VW.iload (pc' := 62) d_Model_undoes_60 rfl rfl ?_
      refine VW.if_lt (tgt := 125) (pc' := 65) d_Model_undoes_62 rfl rfl (fun c62 => ?_) (fun c62 => ?_)
      · refine VW.aload_n (pc' := 126) d_Model_undoes_125 rfl rfl ?_
        refine VW.iconst (pc' := 127) d_Model_undoes_126 rfl (by decide) ?_
        refine VW.iload_n (pc' := 128) d_Model_undoes_127 rfl rfl ?_
        refine VW.ldc (pc' := 130) (z := -2147483648) d_Model_undoes_128 rfl lk_Model_246 (by decide) (by decide) ?_
        refine VW.ldc (pc' := 132) (z := -2147483648) d_Model_undoes_130 rfl lk_Model_246 (by decide) (by decide) ?_
        refine VW.cV (ci := 11) (T := T11) (N := 94) (pc' := 135) d_Model_undoes_132 rfl mv_Model_notes lk_Model_297 rfl (hM.k rfl) rfl rfl rfl (Nat.le_refl _) (Nat.le_refl _) (sp_Model_notes hM (by omega) (by omega)) rfl rfl ?_
        refine VW.iload (pc' := 137) d_Model_undoes_135 rfl rfl ?_
        exact VW.iret d_Model_undoes_137 rfl rfl (Nat.zero_le _) (Nat.zero_le _) (by rw [e1, e]; exact ex_rf)
      · exfalso; omega
    | succ n ih =>
      intro S k sk c hk hc hc2 hn hs hs2 he
      have ek : k = n := by omega
      subst ek
      have l1 := mUn_le i n sk (mnotes S 2 i (S 248 n) (S 249 n)) (c + 1)
      rw [mnotes_44] at l1
      have l2 := mUn_le i (n + 1) sk S c
      rw [he] at l2
      have h3 : S 246 n = 0 → S 247 n = i → sk ≤ 0 → S 100 44 + 1 < 16384 := by
        intro a b d
        rw [mUn_yes ⟨a, b⟩ d] at he
        rw [he] at l1
        omega
      refine VW.iload (pc' := 62) d_Model_undoes_60 rfl rfl ?_
      refine VW.if_lt (tgt := 125) (pc' := 65) d_Model_undoes_62 rfl rfl (fun c62 => ?_) (fun c62 => ?_)
      · exfalso; omega
      · refine VW.aload_n (pc' := 66) d_Model_undoes_65 rfl rfl ?_
        refine VW.gP (ci := 11) (T := T11) (N := 94) (k := 46) (k' := 46) (pc' := 69) d_Model_undoes_66 rfl lk_Model_126 in11 rfl rfl rfl rfl (hM.k rfl) (hM.p (r := some 246) 46 rfl rfl) ?_
        refine VW.iload (pc' := 71) d_Model_undoes_69 rfl rfl ?_
        refine VW.ild (pc' := 72) d_Model_undoes_71 rfl (hM.k rfl) (by omega) (by omega) (by first | assumption | (simp [up2] <;> rfl) | rfl) ?_
        refine VW.if_ne (tgt := 119) (pc' := 75) d_Model_undoes_72 rfl rfl (fun c72 => ?_) (fun c72 => ?_)
        · try have e72 := bIn c72
          refine VW.iinc (pc' := 122) d_Model_undoes_119 rfl rfl rfl (by omega) ?_
          refine VW.goto (pc' := 60) d_Model_undoes_122 rfl ?_
          refine VW.nrm ?_
          first | exact ih _ _ _ _ (by omega) (by omega) (by omega) (by omega) (by omega) (by omega) ((mUn_skip ⟨c72, c83⟩ c87).symm.trans he) | exact ih _ _ _ _ (by omega) (by omega) (by omega) (by rw [mnotes_44]; omega) (by omega) (by omega) ((mUn_yes ⟨c72, c83⟩ c87).symm.trans he) | exact ih _ _ _ _ (by omega) (by omega) (by omega) (by omega) (by omega) (by omega) ((mUn_no (fun z => c72 z.1)).symm.trans he) | exact ih _ _ _ _ (by omega) (by omega) (by omega) (by omega) (by omega) (by omega) ((mUn_no (fun z => c83 z.2)).symm.trans he)
        · try have e72 := bIe c72
          refine VW.aload_n (pc' := 76) d_Model_undoes_75 rfl rfl ?_
          refine VW.gP (ci := 11) (T := T11) (N := 94) (k := 47) (k' := 47) (pc' := 79) d_Model_undoes_76 rfl lk_Model_129 in11 rfl rfl rfl rfl (hM.k rfl) (hM.p (r := some 247) 47 rfl rfl) ?_
          refine VW.iload (pc' := 81) d_Model_undoes_79 rfl rfl ?_
          refine VW.ild (pc' := 82) d_Model_undoes_81 rfl (hM.k rfl) (by omega) (by omega) (by first | assumption | (simp [up2] <;> rfl) | rfl) ?_
          refine VW.iload_n (pc' := 83) d_Model_undoes_82 rfl rfl ?_
          refine VW.icmp_ne (tgt := 119) (pc' := 86) d_Model_undoes_83 rfl rfl (fun c83 => ?_) (fun c83 => ?_)
          · refine VW.iinc (pc' := 122) d_Model_undoes_119 rfl rfl rfl (by omega) ?_
            refine VW.goto (pc' := 60) d_Model_undoes_122 rfl ?_
            refine VW.nrm ?_
            first | exact ih _ _ _ _ (by omega) (by omega) (by omega) (by omega) (by omega) (by omega) ((mUn_skip ⟨c72, c83⟩ c87).symm.trans he) | exact ih _ _ _ _ (by omega) (by omega) (by omega) (by rw [mnotes_44]; omega) (by omega) (by omega) ((mUn_yes ⟨c72, c83⟩ c87).symm.trans he) | exact ih _ _ _ _ (by omega) (by omega) (by omega) (by omega) (by omega) (by omega) ((mUn_no (fun z => c72 z.1)).symm.trans he) | exact ih _ _ _ _ (by omega) (by omega) (by omega) (by omega) (by omega) (by omega) ((mUn_no (fun z => c83 z.2)).symm.trans he)
          · refine VW.iload_n (pc' := 87) d_Model_undoes_86 rfl rfl ?_
            refine VW.if_le (tgt := 96) (pc' := 90) d_Model_undoes_87 rfl rfl (fun c87 => ?_) (fun c87 => ?_)
            · refine VW.aload_n (pc' := 97) d_Model_undoes_96 rfl rfl ?_
              refine VW.iconst (pc' := 98) d_Model_undoes_97 rfl (by decide) ?_
              refine VW.iload_n (pc' := 99) d_Model_undoes_98 rfl rfl ?_
              refine VW.aload_n (pc' := 100) d_Model_undoes_99 rfl rfl ?_
              refine VW.gP (ci := 11) (T := T11) (N := 94) (k := 48) (k' := 48) (pc' := 103) d_Model_undoes_100 rfl lk_Model_132 in11 rfl rfl rfl rfl (hM.k rfl) (hM.p (r := some 248) 48 rfl rfl) ?_
              refine VW.iload (pc' := 105) d_Model_undoes_103 rfl rfl ?_
              refine VW.ild (pc' := 106) d_Model_undoes_105 rfl (hM.k rfl) (by omega) (by omega) (by first | assumption | (simp [up2] <;> rfl) | rfl) ?_
              refine VW.aload_n (pc' := 107) d_Model_undoes_106 rfl rfl ?_
              refine VW.gP (ci := 11) (T := T11) (N := 94) (k := 49) (k' := 49) (pc' := 110) d_Model_undoes_107 rfl lk_Model_135 in11 rfl rfl rfl rfl (hM.k rfl) (hM.p (r := some 249) 49 rfl rfl) ?_
              refine VW.iload (pc' := 112) d_Model_undoes_110 rfl rfl ?_
              refine VW.ild (pc' := 113) d_Model_undoes_112 rfl (hM.k rfl) (by omega) (by omega) (by first | assumption | (simp [up2] <;> rfl) | rfl) ?_
              have h4 := h3 c72 c83 c87
              refine VW.cV (ci := 11) (T := T11) (N := 94) (pc' := 116) d_Model_undoes_113 rfl mv_Model_notes lk_Model_297 rfl (hM.k rfl) rfl rfl rfl (Nat.le_refl _) (Nat.le_refl _) (sp_Model_notes hM (by omega) (by omega)) rfl rfl ?_
              refine VW.iinc (pc' := 119) d_Model_undoes_116 rfl rfl rfl (by omega) ?_
              refine VW.iinc (pc' := 122) d_Model_undoes_119 rfl rfl rfl (by omega) ?_
              refine VW.goto (pc' := 60) d_Model_undoes_122 rfl ?_
              refine VW.nrm ?_
              first | exact ih _ _ _ _ (by omega) (by omega) (by omega) (by omega) (by omega) (by omega) ((mUn_skip ⟨c72, c83⟩ c87).symm.trans he) | exact ih _ _ _ _ (by omega) (by omega) (by omega) (by rw [mnotes_44]; omega) (by omega) (by omega) ((mUn_yes ⟨c72, c83⟩ c87).symm.trans he) | exact ih _ _ _ _ (by omega) (by omega) (by omega) (by omega) (by omega) (by omega) ((mUn_no (fun z => c72 z.1)).symm.trans he) | exact ih _ _ _ _ (by omega) (by omega) (by omega) (by omega) (by omega) (by omega) ((mUn_no (fun z => c83 z.2)).symm.trans he)
            · refine VW.iinc (pc' := 93) d_Model_undoes_90 rfl rfl rfl (by omega) ?_
              refine VW.goto (pc' := 119) d_Model_undoes_93 rfl ?_
              refine VW.iinc (pc' := 122) d_Model_undoes_119 rfl rfl rfl (by omega) ?_
              refine VW.goto (pc' := 60) d_Model_undoes_122 rfl ?_
              refine VW.nrm ?_
              first | exact ih _ _ _ _ (by omega) (by omega) (by omega) (by omega) (by omega) (by omega) ((mUn_skip ⟨c72, c83⟩ c87).symm.trans he) | exact ih _ _ _ _ (by omega) (by omega) (by omega) (by rw [mnotes_44]; omega) (by omega) (by omega) ((mUn_yes ⟨c72, c83⟩ c87).symm.trans he) | exact ih _ _ _ _ (by omega) (by omega) (by omega) (by omega) (by omega) (by omega) ((mUn_no (fun z => c72 z.1)).symm.trans he) | exact ih _ _ _ _ (by omega) (by omega) (by omega) (by omega) (by omega) (by omega) ((mUn_no (fun z => c83 z.2)).symm.trans he)
  have loop1 : ∀ (n m : Nat) (c : Int), m + n = I 100 44 → c = cntI (mUnG I i) m → VW m_Model_undoes false (rmv 1 24) (ex K P J (mUndoes I i) (.inl (some (vI (mUnR I i).2)))) K P J I 0 0 10 [(0, vR (some 100)), (1, vI i), (2, vI c), (3, vI (I 100 44)), (4, vI (m : Int))] [] := by
    intro n
    induction n with
    | zero =>
      intro m c hm hc
      have r := cntI_rg (mUnG I i) m
      have em : (I 100 44).toNat = m := by omega
      refine VW.iload (pc' := 12) d_Model_undoes_10 rfl rfl ?_
      refine VW.iload_n (pc' := 13) d_Model_undoes_12 rfl rfl ?_
      refine VW.icmp_ge (tgt := 52) (pc' := 16) d_Model_undoes_13 rfl rfl (fun c13 => ?_) (fun c13 => ?_)
      · refine VW.iconst (pc' := 53) d_Model_undoes_52 rfl (by decide) ?_
        refine VW.istore (pc' := 55) d_Model_undoes_53 rfl rfl ?_
        refine VW.iload_n (pc' := 56) d_Model_undoes_55 rfl rfl ?_
        refine VW.iconst (pc' := 57) d_Model_undoes_56 rfl (by decide) ?_
        refine VW.isub (pc' := 58) d_Model_undoes_57 rfl (by omega) ?_
        refine VW.istore (pc' := 60) d_Model_undoes_58 rfl rfl ?_
        refine VW.pick [0, 1, 2, 4, 5] ?_
        exact loop2 m I _ _ 0 (by omega) (by omega) (by omega) (by omega) (by omega) (by omega) (by unfold mUnR; rw [em, hc])
      · exfalso; omega
    | succ n ih =>
      intro m c hm hc
      have r := cntI_rg (mUnG I i) m
      have em : (m : Int) + 1 = ((m + 1 : Nat) : Int) := by omega
      refine VW.iload (pc' := 12) d_Model_undoes_10 rfl rfl ?_
      refine VW.iload_n (pc' := 13) d_Model_undoes_12 rfl rfl ?_
      refine VW.icmp_ge (tgt := 52) (pc' := 16) d_Model_undoes_13 rfl rfl (fun c13 => ?_) (fun c13 => ?_)
      · exfalso; omega
      · refine VW.iload_n (pc' := 17) d_Model_undoes_16 rfl rfl ?_
        refine VW.aload_n (pc' := 18) d_Model_undoes_17 rfl rfl ?_
        refine VW.gP (ci := 11) (T := T11) (N := 94) (k := 46) (k' := 46) (pc' := 21) d_Model_undoes_18 rfl lk_Model_126 in11 rfl rfl rfl rfl (hM.k rfl) (hM.p (r := some 246) 46 rfl rfl) ?_
        refine VW.iload (pc' := 23) d_Model_undoes_21 rfl rfl ?_
        refine VW.ild (pc' := 24) d_Model_undoes_23 rfl (hM.k rfl) (by omega) (by omega) (by first | assumption | (simp [up2] <;> rfl) | rfl) ?_
        refine VW.iconst (pc' := 25) d_Model_undoes_24 rfl (by decide) ?_
        refine VW.icmp_ne (tgt := 43) (pc' := 28) d_Model_undoes_25 rfl rfl (fun c25 => ?_) (fun c25 => ?_)
        · refine VW.iconst (pc' := 44) d_Model_undoes_43 rfl (by decide) ?_
          refine VW.iadd (pc' := 45) d_Model_undoes_44 rfl (by omega) ?_
          refine VW.istore_n (pc' := 46) d_Model_undoes_45 rfl rfl ?_
          refine VW.iinc (pc' := 49) d_Model_undoes_46 rfl rfl rfl (by omega) ?_
          refine VW.goto (pc' := 10) d_Model_undoes_49 rfl ?_
          refine VW.nrm ?_
          rw [em]
          first | exact ih (m + 1) _ (by omega) (by rw [hc]; exact cntI_yes ⟨c25, c36⟩) | exact ih (m + 1) _ (by omega) (by rw [hc]; exact cntI_no (fun z => c25 z.1)) | exact ih (m + 1) _ (by omega) (by rw [hc]; exact cntI_no (fun z => c36 z.2))
        · refine VW.aload_n (pc' := 29) d_Model_undoes_28 rfl rfl ?_
          refine VW.gP (ci := 11) (T := T11) (N := 94) (k := 47) (k' := 47) (pc' := 32) d_Model_undoes_29 rfl lk_Model_129 in11 rfl rfl rfl rfl (hM.k rfl) (hM.p (r := some 247) 47 rfl rfl) ?_
          refine VW.iload (pc' := 34) d_Model_undoes_32 rfl rfl ?_
          refine VW.ild (pc' := 35) d_Model_undoes_34 rfl (hM.k rfl) (by omega) (by omega) (by first | assumption | (simp [up2] <;> rfl) | rfl) ?_
          refine VW.iload_n (pc' := 36) d_Model_undoes_35 rfl rfl ?_
          refine VW.icmp_ne (tgt := 43) (pc' := 39) d_Model_undoes_36 rfl rfl (fun c36 => ?_) (fun c36 => ?_)
          · refine VW.iconst (pc' := 44) d_Model_undoes_43 rfl (by decide) ?_
            refine VW.iadd (pc' := 45) d_Model_undoes_44 rfl (by omega) ?_
            refine VW.istore_n (pc' := 46) d_Model_undoes_45 rfl rfl ?_
            refine VW.iinc (pc' := 49) d_Model_undoes_46 rfl rfl rfl (by omega) ?_
            refine VW.goto (pc' := 10) d_Model_undoes_49 rfl ?_
            refine VW.nrm ?_
            rw [em]
            first | exact ih (m + 1) _ (by omega) (by rw [hc]; exact cntI_yes ⟨c25, c36⟩) | exact ih (m + 1) _ (by omega) (by rw [hc]; exact cntI_no (fun z => c25 z.1)) | exact ih (m + 1) _ (by omega) (by rw [hc]; exact cntI_no (fun z => c36 z.2))
          · refine VW.iconst (pc' := 40) d_Model_undoes_39 rfl (by decide) ?_
            refine VW.goto (pc' := 44) d_Model_undoes_40 rfl ?_
            refine VW.iadd (pc' := 45) d_Model_undoes_44 rfl (by omega) ?_
            refine VW.istore_n (pc' := 46) d_Model_undoes_45 rfl rfl ?_
            refine VW.iinc (pc' := 49) d_Model_undoes_46 rfl rfl rfl (by omega) ?_
            refine VW.goto (pc' := 10) d_Model_undoes_49 rfl ?_
            refine VW.nrm ?_
            rw [em]
            first | exact ih (m + 1) _ (by omega) (by rw [hc]; exact cntI_yes ⟨c25, c36⟩) | exact ih (m + 1) _ (by omega) (by rw [hc]; exact cntI_no (fun z => c25 z.1)) | exact ih (m + 1) _ (by omega) (by rw [hc]; exact cntI_no (fun z => c36 z.2))
  refine VW.iconst (pc' := 1) d_Model_undoes_0 rfl (by decide) ?_
  refine VW.istore_n (pc' := 2) d_Model_undoes_1 rfl rfl ?_
  refine VW.aload_n (pc' := 3) d_Model_undoes_2 rfl rfl ?_
  refine VW.gI (ci := 11) (T := T11) (N := 94) (k := 44) (k' := 44) (pc' := 6) d_Model_undoes_3 rfl lk_Model_294 in11 rfl rfl rfl rfl (hM.k rfl) (by first | assumption | (simp [up2] <;> rfl) | rfl) ?_
  refine VW.istore_n (pc' := 7) d_Model_undoes_6 rfl rfl ?_
  refine VW.iconst (pc' := 8) d_Model_undoes_7 rfl (by decide) ?_
  refine VW.istore (pc' := 10) d_Model_undoes_8 rfl rfl ?_
  refine VW.nrm ?_
  exact loop1 (I 100 44).toNat 0 0 (by omega) rfl
/-- a record is the first write of a row of t by i -/
def mSzG (I : IT) (i t : Int) (j : Int) : Prop := I 246 j = 0 ∧ I 247 j = i ∧ I 248 j = t ∧ mFirst I j
/-- how many rows a table has once i commits, as far as the first n records say -/
noncomputable def mSz (I : IT) (i t : Int) : Nat → Int
  | 0 => I 214 (24 + t)
  | n + 1 => if bI (mSzG I i t n) = 1 then mSz I i t n + (if mfind I (I 223 i) t (I 249 n) = -1 then 0 else 1) - (if mfind I 4 t (I 249 n) = -1 then 0 else 1) else mSz I i t n
theorem mSz_yes {I : IT} {i t : Int} {n : Nat} (h : mSzG I i t n) : mSz I i t (n + 1) = mSz I i t n + (if mfind I (I 223 i) t (I 249 n) = -1 then 0 else 1) - (if mfind I 4 t (I 249 n) = -1 then 0 else 1) := if_pos (bI1 h)
theorem mSz_no {I : IT} {i t : Int} {n : Nat} (h : ¬ mSzG I i t n) : mSz I i t (n + 1) = mSz I i t n := if_neg (by rw [bI0 h]; decide)
theorem mSz_hit {I : IT} {i t z a b : Int} {n : Nat} (hz : z = mSz I i t n) (h : mSzG I i t n) (ha : (a = 1 ∧ mfind I (I 223 i) t (I 249 n) ≠ -1) ∨ (a = 0 ∧ mfind I (I 223 i) t (I 249 n) = -1)) (hc : (b = 1 ∧ mfind I 4 t (I 249 n) ≠ -1) ∨ (b = 0 ∧ mfind I 4 t (I 249 n) = -1)) : z + a - b = mSz I i t (n + 1) := by
  rw [mSz_yes h]; split <;> split <;> omega
theorem mSz_rg (I : IT) (i t : Int) : ∀ n : Nat, I 214 (24 + t) - n ≤ mSz I i t n ∧ mSz I i t n ≤ I 214 (24 + t) + n := by
  intro n
  induction n with
  | zero => show I 214 (24 + t) - 0 ≤ I 214 (24 + t) ∧ I 214 (24 + t) ≤ I 214 (24 + t) + 0; omega
  | succ n ih =>
    by_cases h : mSzG I i t n
    · rw [mSz_yes h]; split <;> split <;> omega
    · rw [mSz_no h]; omega
def mTooMuch (I : IT) (i : Int) : Prop := ∃ t, 0 ≤ t ∧ t < I 100 0 ∧ 8 < mSz I i t (I 100 44).toNat
theorem sp_Model_isTooMuch {i : Int} (hM : MW K P) (hb : MB I) (hi : 0 ≤ i ∧ i < 60) (h0 : 0 ≤ I 100 44 ∧ I 100 44 ≤ 16384) : Sp m_Model_isTooMuch false (rmv 2 48) (ex K P J I (.inl (some (vI (bI (mTooMuch I i)))))) K P J I [vR (some 100), vI i] := by
  refine Sp.ofV (by decide) (Or.inr rfl) rfl ?_
  have b0 := hb.tab
  have p0 := hb.pla i
  have loop1 : ∀ (n : Nat) (t is : Int), t + n = I 100 0 → 0 ≤ t → orI (fun t => 8 < mSz I i t (I 100 44).toNat) 0 t is → VW m_Model_isTooMuch false (rmv 2 48) (ex K P J I (.inl (some (vI (bI (mTooMuch I i)))))) K P J I 0 0 4 [(0, vR (some 100)), (1, vI i), (2, vI is), (3, vI t)] [] := by
    intro n
    induction n with
    | zero =>
      intro t is ht hq hs
      refine VW.iload_n (pc' := 5) d_Model_isTooMuch_4 rfl rfl ?_
      refine VW.aload_n (pc' := 6) d_Model_isTooMuch_5 rfl rfl ?_
      refine VW.gI (ci := 11) (T := T11) (N := 94) (k := 0) (k' := 0) (pc' := 9) d_Model_isTooMuch_6 rfl lk_Model_239 in11 rfl rfl rfl rfl (hM.k rfl) (by first | assumption | (simp [up2] <;> rfl) | rfl) ?_
      refine VW.icmp_ge (tgt := 164) (pc' := 12) d_Model_isTooMuch_9 rfl rfl (fun c9 => ?_) (fun c9 => ?_)
      · refine VW.iload_n (pc' := 165) d_Model_isTooMuch_164 rfl rfl ?_
        exact VW.iret d_Model_isTooMuch_165 rfl (narZ hs.h01) (Nat.zero_le _) (Nat.zero_le _) (by rw [show mTooMuch I i = (∃ j, 0 ≤ j ∧ j < t ∧ (fun t => 8 < mSz I i t (I 100 44).toNat) j) from by unfold mTooMuch; rw [show I 100 0 = t by omega], ← hs.bI]; exact ex_rf)
      · exfalso; omega
    | succ n ih =>
      intro t is ht hq hs
      have r0 := hb.row (24 + t)
      have loop2 : ∀ (l m : Nat) (z : Int), m + l = I 100 44 → z = mSz I i t m → VW m_Model_isTooMuch false (rmv 2 48) (ex K P J I (.inl (some (vI (bI (mTooMuch I i)))))) K P J I 0 0 26 [(0, vR (some 100)), (1, vI i), (2, vI is), (3, vI t), (4, vI z), (5, vI (m : Int))] [] := by
        intro l
        induction l with
        | zero =>
          intro m z hm hz
          have em : (I 100 44).toNat = m := by omega
          refine VW.iload (pc' := 28) d_Model_isTooMuch_26 rfl rfl ?_
          refine VW.aload_n (pc' := 29) d_Model_isTooMuch_28 rfl rfl ?_
          refine VW.gI (ci := 11) (T := T11) (N := 94) (k := 44) (k' := 44) (pc' := 32) d_Model_isTooMuch_29 rfl lk_Model_294 in11 rfl rfl rfl rfl (hM.k rfl) (by first | assumption | (simp [up2] <;> rfl) | rfl) ?_
          refine VW.icmp_ge (tgt := 141) (pc' := 35) d_Model_isTooMuch_32 rfl rfl (fun c32 => ?_) (fun c32 => ?_)
          · refine VW.iload_n (pc' := 142) d_Model_isTooMuch_141 rfl rfl ?_
            refine VW.if_ne (tgt := 152) (pc' := 145) d_Model_isTooMuch_142 rfl rfl (fun c142 => ?_) (fun c142 => ?_)
            · try have e142 := bIn c142
              refine VW.iconst (pc' := 153) d_Model_isTooMuch_152 rfl (by decide) ?_
              refine VW.goto (pc' := 157) d_Model_isTooMuch_153 rfl ?_
              refine VW.istore_n (pc' := 158) d_Model_isTooMuch_157 rfl rfl ?_
              refine VW.iinc (pc' := 161) d_Model_isTooMuch_158 rfl rfl rfl (by omega) ?_
              refine VW.goto (pc' := 4) d_Model_isTooMuch_161 rfl ?_
              refine VW.pick [0, 1, 2, 3] ?_
              exact ih (t + 1) _ (by omega) (by omega) (by first | exact hs.keep c142 | exact orI.hit hq (by show 8 < mSz I i t _; rw [em]; omega) | exact hs.no c142 (by show ¬ 8 < mSz I i t _; rw [em]; omega))
            · try have e142 := bIe c142
              refine VW.iload (pc' := 147) d_Model_isTooMuch_145 rfl rfl ?_
              refine VW.bipush (pc' := 149) d_Model_isTooMuch_147 rfl (by decide) ?_
              refine VW.icmp_le (tgt := 156) (pc' := 152) d_Model_isTooMuch_149 rfl rfl (fun c149 => ?_) (fun c149 => ?_)
              · refine VW.iconst (pc' := 157) d_Model_isTooMuch_156 rfl (by decide) ?_
                refine VW.istore_n (pc' := 158) d_Model_isTooMuch_157 rfl rfl ?_
                refine VW.iinc (pc' := 161) d_Model_isTooMuch_158 rfl rfl rfl (by omega) ?_
                refine VW.goto (pc' := 4) d_Model_isTooMuch_161 rfl ?_
                refine VW.pick [0, 1, 2, 3] ?_
                exact ih (t + 1) _ (by omega) (by omega) (by first | exact hs.keep c142 | exact orI.hit hq (by show 8 < mSz I i t _; rw [em]; omega) | exact hs.no c142 (by show ¬ 8 < mSz I i t _; rw [em]; omega))
              · refine VW.iconst (pc' := 153) d_Model_isTooMuch_152 rfl (by decide) ?_
                refine VW.goto (pc' := 157) d_Model_isTooMuch_153 rfl ?_
                refine VW.istore_n (pc' := 158) d_Model_isTooMuch_157 rfl rfl ?_
                refine VW.iinc (pc' := 161) d_Model_isTooMuch_158 rfl rfl rfl (by omega) ?_
                refine VW.goto (pc' := 4) d_Model_isTooMuch_161 rfl ?_
                refine VW.pick [0, 1, 2, 3] ?_
                exact ih (t + 1) _ (by omega) (by omega) (by first | exact hs.keep c142 | exact orI.hit hq (by show 8 < mSz I i t _; rw [em]; omega) | exact hs.no c142 (by show ¬ 8 < mSz I i t _; rw [em]; omega))
          · exfalso; omega
        | succ l ih2 =>
          intro m z hm hz
          have r1 := mSz_rg I i t m
          have r2 := hb.row (6 * I 223 i + t)
          have r3 := hb.row (6 * 4 + t)
          have em : (m : Int) + 1 = ((m + 1 : Nat) : Int) := by omega
          refine VW.iload (pc' := 28) d_Model_isTooMuch_26 rfl rfl ?_
          refine VW.aload_n (pc' := 29) d_Model_isTooMuch_28 rfl rfl ?_
          refine VW.gI (ci := 11) (T := T11) (N := 94) (k := 44) (k' := 44) (pc' := 32) d_Model_isTooMuch_29 rfl lk_Model_294 in11 rfl rfl rfl rfl (hM.k rfl) (by first | assumption | (simp [up2] <;> rfl) | rfl) ?_
          refine VW.icmp_ge (tgt := 141) (pc' := 35) d_Model_isTooMuch_32 rfl rfl (fun c32 => ?_) (fun c32 => ?_)
          · exfalso; omega
          · refine VW.aload_n (pc' := 36) d_Model_isTooMuch_35 rfl rfl ?_
            refine VW.gP (ci := 11) (T := T11) (N := 94) (k := 46) (k' := 46) (pc' := 39) d_Model_isTooMuch_36 rfl lk_Model_126 in11 rfl rfl rfl rfl (hM.k rfl) (hM.p (r := some 246) 46 rfl rfl) ?_
            refine VW.iload (pc' := 41) d_Model_isTooMuch_39 rfl rfl ?_
            refine VW.ild (pc' := 42) d_Model_isTooMuch_41 rfl (hM.k rfl) (by omega) (by omega) (by first | assumption | (simp [up2] <;> rfl) | rfl) ?_
            refine VW.if_ne (tgt := 135) (pc' := 45) d_Model_isTooMuch_42 rfl rfl (fun c42 => ?_) (fun c42 => ?_)
            · try have e42 := bIn c42
              refine VW.iinc (pc' := 138) d_Model_isTooMuch_135 rfl rfl rfl (by omega) ?_
              refine VW.goto (pc' := 26) d_Model_isTooMuch_138 rfl ?_
              refine VW.nrm ?_
              rw [em]
              exact ih2 (m + 1) _ (by omega) (by first | exact hz.trans (mSz_no (fun y => c42 y.1)).symm | exact hz.trans (mSz_no (fun y => c53 y.2.1)).symm | exact hz.trans (mSz_no (fun y => c64 y.2.2.1)).symm | exact hz.trans (mSz_no (fun y => e73 y.2.2.2)).symm | exact mSz_hit hz ⟨c42, c53, c64, e73⟩ (by first | exact Or.inl ⟨rfl, c97⟩ | exact Or.inr ⟨rfl, c97⟩) (by first | exact Or.inl ⟨rfl, c124⟩ | exact Or.inr ⟨rfl, c124⟩))
            · try have e42 := bIe c42
              refine VW.aload_n (pc' := 46) d_Model_isTooMuch_45 rfl rfl ?_
              refine VW.gP (ci := 11) (T := T11) (N := 94) (k := 47) (k' := 47) (pc' := 49) d_Model_isTooMuch_46 rfl lk_Model_129 in11 rfl rfl rfl rfl (hM.k rfl) (hM.p (r := some 247) 47 rfl rfl) ?_
              refine VW.iload (pc' := 51) d_Model_isTooMuch_49 rfl rfl ?_
              refine VW.ild (pc' := 52) d_Model_isTooMuch_51 rfl (hM.k rfl) (by omega) (by omega) (by first | assumption | (simp [up2] <;> rfl) | rfl) ?_
              refine VW.iload_n (pc' := 53) d_Model_isTooMuch_52 rfl rfl ?_
              refine VW.icmp_ne (tgt := 135) (pc' := 56) d_Model_isTooMuch_53 rfl rfl (fun c53 => ?_) (fun c53 => ?_)
              · refine VW.iinc (pc' := 138) d_Model_isTooMuch_135 rfl rfl rfl (by omega) ?_
                refine VW.goto (pc' := 26) d_Model_isTooMuch_138 rfl ?_
                refine VW.nrm ?_
                rw [em]
                exact ih2 (m + 1) _ (by omega) (by first | exact hz.trans (mSz_no (fun y => c42 y.1)).symm | exact hz.trans (mSz_no (fun y => c53 y.2.1)).symm | exact hz.trans (mSz_no (fun y => c64 y.2.2.1)).symm | exact hz.trans (mSz_no (fun y => e73 y.2.2.2)).symm | exact mSz_hit hz ⟨c42, c53, c64, e73⟩ (by first | exact Or.inl ⟨rfl, c97⟩ | exact Or.inr ⟨rfl, c97⟩) (by first | exact Or.inl ⟨rfl, c124⟩ | exact Or.inr ⟨rfl, c124⟩))
              · refine VW.aload_n (pc' := 57) d_Model_isTooMuch_56 rfl rfl ?_
                refine VW.gP (ci := 11) (T := T11) (N := 94) (k := 48) (k' := 48) (pc' := 60) d_Model_isTooMuch_57 rfl lk_Model_132 in11 rfl rfl rfl rfl (hM.k rfl) (hM.p (r := some 248) 48 rfl rfl) ?_
                refine VW.iload (pc' := 62) d_Model_isTooMuch_60 rfl rfl ?_
                refine VW.ild (pc' := 63) d_Model_isTooMuch_62 rfl (hM.k rfl) (by omega) (by omega) (by first | assumption | (simp [up2] <;> rfl) | rfl) ?_
                refine VW.iload_n (pc' := 64) d_Model_isTooMuch_63 rfl rfl ?_
                refine VW.icmp_ne (tgt := 135) (pc' := 67) d_Model_isTooMuch_64 rfl rfl (fun c64 => ?_) (fun c64 => ?_)
                · refine VW.iinc (pc' := 138) d_Model_isTooMuch_135 rfl rfl rfl (by omega) ?_
                  refine VW.goto (pc' := 26) d_Model_isTooMuch_138 rfl ?_
                  refine VW.nrm ?_
                  rw [em]
                  exact ih2 (m + 1) _ (by omega) (by first | exact hz.trans (mSz_no (fun y => c42 y.1)).symm | exact hz.trans (mSz_no (fun y => c53 y.2.1)).symm | exact hz.trans (mSz_no (fun y => c64 y.2.2.1)).symm | exact hz.trans (mSz_no (fun y => e73 y.2.2.2)).symm | exact mSz_hit hz ⟨c42, c53, c64, e73⟩ (by first | exact Or.inl ⟨rfl, c97⟩ | exact Or.inr ⟨rfl, c97⟩) (by first | exact Or.inl ⟨rfl, c124⟩ | exact Or.inr ⟨rfl, c124⟩))
                · refine VW.aload_n (pc' := 68) d_Model_isTooMuch_67 rfl rfl ?_
                  refine VW.iload (pc' := 70) d_Model_isTooMuch_68 rfl rfl ?_
                  refine VW.cV (ci := 11) (T := T11) (N := 94) (pc' := 73) d_Model_isTooMuch_70 rfl mv_Model_isFirstWrite lk_Model_382 rfl (hM.k rfl) rfl rfl rfl (Nat.le_refl _) (Nat.le_refl _) (sp_Model_isFirstWrite hM (by omega)) rfl rfl ?_
                  refine VW.if_eq (tgt := 135) (pc' := 76) d_Model_isTooMuch_73 rfl rfl (fun c73 => ?_) (fun c73 => ?_)
                  · try have e73 := bIe c73
                    refine VW.iinc (pc' := 138) d_Model_isTooMuch_135 rfl rfl rfl (by omega) ?_
                    refine VW.goto (pc' := 26) d_Model_isTooMuch_138 rfl ?_
                    refine VW.nrm ?_
                    rw [em]
                    exact ih2 (m + 1) _ (by omega) (by first | exact hz.trans (mSz_no (fun y => c42 y.1)).symm | exact hz.trans (mSz_no (fun y => c53 y.2.1)).symm | exact hz.trans (mSz_no (fun y => c64 y.2.2.1)).symm | exact hz.trans (mSz_no (fun y => e73 y.2.2.2)).symm | exact mSz_hit hz ⟨c42, c53, c64, e73⟩ (by first | exact Or.inl ⟨rfl, c97⟩ | exact Or.inr ⟨rfl, c97⟩) (by first | exact Or.inl ⟨rfl, c124⟩ | exact Or.inr ⟨rfl, c124⟩))
                  · try have e73 := bIn c73
                    refine VW.iload (pc' := 78) d_Model_isTooMuch_76 rfl rfl ?_
                    refine VW.aload_n (pc' := 79) d_Model_isTooMuch_78 rfl rfl ?_
                    refine VW.aload_n (pc' := 80) d_Model_isTooMuch_79 rfl rfl ?_
                    refine VW.gP (ci := 11) (T := T11) (N := 94) (k := 23) (k' := 23) (pc' := 83) d_Model_isTooMuch_80 rfl lk_Model_67 in11 rfl rfl rfl rfl (hM.k rfl) (hM.p (r := some 223) 23 rfl rfl) ?_
                    refine VW.iload_n (pc' := 84) d_Model_isTooMuch_83 rfl rfl ?_
                    refine VW.ild (pc' := 85) d_Model_isTooMuch_84 rfl (hM.k rfl) (by omega) (by omega) (by first | assumption | (simp [up2] <;> rfl) | rfl) ?_
                    refine VW.iload_n (pc' := 86) d_Model_isTooMuch_85 rfl rfl ?_
                    refine VW.aload_n (pc' := 87) d_Model_isTooMuch_86 rfl rfl ?_
                    refine VW.gP (ci := 11) (T := T11) (N := 94) (k := 49) (k' := 49) (pc' := 90) d_Model_isTooMuch_87 rfl lk_Model_135 in11 rfl rfl rfl rfl (hM.k rfl) (hM.p (r := some 249) 49 rfl rfl) ?_
                    refine VW.iload (pc' := 92) d_Model_isTooMuch_90 rfl rfl ?_
                    refine VW.ild (pc' := 93) d_Model_isTooMuch_92 rfl (hM.k rfl) (by omega) (by omega) (by first | assumption | (simp [up2] <;> rfl) | rfl) ?_
                    refine VW.cV (ci := 11) (T := T11) (N := 94) (pc' := 96) d_Model_isTooMuch_93 rfl mv_Model_find lk_Model_305 rfl (hM.k rfl) rfl rfl rfl (Nat.le_refl _) (Nat.le_refl _) (sp_Model_find hM (by omega) (by omega) (by omega)) rfl rfl ?_
                    refine VW.iconst (pc' := 97) d_Model_isTooMuch_96 rfl (by decide) ?_
                    refine VW.icmp_ne (tgt := 104) (pc' := 100) d_Model_isTooMuch_97 rfl rfl (fun c97 => ?_) (fun c97 => ?_)
                    · refine VW.iconst (pc' := 105) d_Model_isTooMuch_104 rfl (by decide) ?_
                      refine VW.iadd (pc' := 106) d_Model_isTooMuch_105 rfl (by omega) ?_
                      refine VW.istore (pc' := 108) d_Model_isTooMuch_106 rfl rfl ?_
                      refine VW.iload (pc' := 110) d_Model_isTooMuch_108 rfl rfl ?_
                      refine VW.aload_n (pc' := 111) d_Model_isTooMuch_110 rfl rfl ?_
                      refine VW.iconst (pc' := 112) d_Model_isTooMuch_111 rfl (by decide) ?_
                      refine VW.iload_n (pc' := 113) d_Model_isTooMuch_112 rfl rfl ?_
                      refine VW.aload_n (pc' := 114) d_Model_isTooMuch_113 rfl rfl ?_
                      refine VW.gP (ci := 11) (T := T11) (N := 94) (k := 49) (k' := 49) (pc' := 117) d_Model_isTooMuch_114 rfl lk_Model_135 in11 rfl rfl rfl rfl (hM.k rfl) (hM.p (r := some 249) 49 rfl rfl) ?_
                      refine VW.iload (pc' := 119) d_Model_isTooMuch_117 rfl rfl ?_
                      refine VW.ild (pc' := 120) d_Model_isTooMuch_119 rfl (hM.k rfl) (by omega) (by omega) (by first | assumption | (simp [up2] <;> rfl) | rfl) ?_
                      refine VW.cV (ci := 11) (T := T11) (N := 94) (pc' := 123) d_Model_isTooMuch_120 rfl mv_Model_find lk_Model_305 rfl (hM.k rfl) rfl rfl rfl (Nat.le_refl _) (Nat.le_refl _) (sp_Model_find hM (by omega) (by omega) (by omega)) rfl rfl ?_
                      refine VW.iconst (pc' := 124) d_Model_isTooMuch_123 rfl (by decide) ?_
                      refine VW.icmp_ne (tgt := 131) (pc' := 127) d_Model_isTooMuch_124 rfl rfl (fun c124 => ?_) (fun c124 => ?_)
                      · refine VW.iconst (pc' := 132) d_Model_isTooMuch_131 rfl (by decide) ?_
                        refine VW.isub (pc' := 133) d_Model_isTooMuch_132 rfl (by omega) ?_
                        refine VW.istore (pc' := 135) d_Model_isTooMuch_133 rfl rfl ?_
                        refine VW.iinc (pc' := 138) d_Model_isTooMuch_135 rfl rfl rfl (by omega) ?_
                        refine VW.goto (pc' := 26) d_Model_isTooMuch_138 rfl ?_
                        refine VW.nrm ?_
                        rw [em]
                        exact ih2 (m + 1) _ (by omega) (by first | exact hz.trans (mSz_no (fun y => c42 y.1)).symm | exact hz.trans (mSz_no (fun y => c53 y.2.1)).symm | exact hz.trans (mSz_no (fun y => c64 y.2.2.1)).symm | exact hz.trans (mSz_no (fun y => e73 y.2.2.2)).symm | exact mSz_hit hz ⟨c42, c53, c64, e73⟩ (by first | exact Or.inl ⟨rfl, c97⟩ | exact Or.inr ⟨rfl, c97⟩) (by first | exact Or.inl ⟨rfl, c124⟩ | exact Or.inr ⟨rfl, c124⟩))
                      · refine VW.iconst (pc' := 128) d_Model_isTooMuch_127 rfl (by decide) ?_
                        refine VW.goto (pc' := 132) d_Model_isTooMuch_128 rfl ?_
                        refine VW.isub (pc' := 133) d_Model_isTooMuch_132 rfl (by omega) ?_
                        refine VW.istore (pc' := 135) d_Model_isTooMuch_133 rfl rfl ?_
                        refine VW.iinc (pc' := 138) d_Model_isTooMuch_135 rfl rfl rfl (by omega) ?_
                        refine VW.goto (pc' := 26) d_Model_isTooMuch_138 rfl ?_
                        refine VW.nrm ?_
                        rw [em]
                        exact ih2 (m + 1) _ (by omega) (by first | exact hz.trans (mSz_no (fun y => c42 y.1)).symm | exact hz.trans (mSz_no (fun y => c53 y.2.1)).symm | exact hz.trans (mSz_no (fun y => c64 y.2.2.1)).symm | exact hz.trans (mSz_no (fun y => e73 y.2.2.2)).symm | exact mSz_hit hz ⟨c42, c53, c64, e73⟩ (by first | exact Or.inl ⟨rfl, c97⟩ | exact Or.inr ⟨rfl, c97⟩) (by first | exact Or.inl ⟨rfl, c124⟩ | exact Or.inr ⟨rfl, c124⟩))
                    · refine VW.iconst (pc' := 101) d_Model_isTooMuch_100 rfl (by decide) ?_
                      refine VW.goto (pc' := 105) d_Model_isTooMuch_101 rfl ?_
                      refine VW.iadd (pc' := 106) d_Model_isTooMuch_105 rfl (by omega) ?_
                      refine VW.istore (pc' := 108) d_Model_isTooMuch_106 rfl rfl ?_
                      refine VW.iload (pc' := 110) d_Model_isTooMuch_108 rfl rfl ?_
                      refine VW.aload_n (pc' := 111) d_Model_isTooMuch_110 rfl rfl ?_
                      refine VW.iconst (pc' := 112) d_Model_isTooMuch_111 rfl (by decide) ?_
                      refine VW.iload_n (pc' := 113) d_Model_isTooMuch_112 rfl rfl ?_
                      refine VW.aload_n (pc' := 114) d_Model_isTooMuch_113 rfl rfl ?_
                      refine VW.gP (ci := 11) (T := T11) (N := 94) (k := 49) (k' := 49) (pc' := 117) d_Model_isTooMuch_114 rfl lk_Model_135 in11 rfl rfl rfl rfl (hM.k rfl) (hM.p (r := some 249) 49 rfl rfl) ?_
                      refine VW.iload (pc' := 119) d_Model_isTooMuch_117 rfl rfl ?_
                      refine VW.ild (pc' := 120) d_Model_isTooMuch_119 rfl (hM.k rfl) (by omega) (by omega) (by first | assumption | (simp [up2] <;> rfl) | rfl) ?_
                      refine VW.cV (ci := 11) (T := T11) (N := 94) (pc' := 123) d_Model_isTooMuch_120 rfl mv_Model_find lk_Model_305 rfl (hM.k rfl) rfl rfl rfl (Nat.le_refl _) (Nat.le_refl _) (sp_Model_find hM (by omega) (by omega) (by omega)) rfl rfl ?_
                      refine VW.iconst (pc' := 124) d_Model_isTooMuch_123 rfl (by decide) ?_
                      refine VW.icmp_ne (tgt := 131) (pc' := 127) d_Model_isTooMuch_124 rfl rfl (fun c124 => ?_) (fun c124 => ?_)
                      · refine VW.iconst (pc' := 132) d_Model_isTooMuch_131 rfl (by decide) ?_
                        refine VW.isub (pc' := 133) d_Model_isTooMuch_132 rfl (by omega) ?_
                        refine VW.istore (pc' := 135) d_Model_isTooMuch_133 rfl rfl ?_
                        refine VW.iinc (pc' := 138) d_Model_isTooMuch_135 rfl rfl rfl (by omega) ?_
                        refine VW.goto (pc' := 26) d_Model_isTooMuch_138 rfl ?_
                        refine VW.nrm ?_
                        rw [em]
                        exact ih2 (m + 1) _ (by omega) (by first | exact hz.trans (mSz_no (fun y => c42 y.1)).symm | exact hz.trans (mSz_no (fun y => c53 y.2.1)).symm | exact hz.trans (mSz_no (fun y => c64 y.2.2.1)).symm | exact hz.trans (mSz_no (fun y => e73 y.2.2.2)).symm | exact mSz_hit hz ⟨c42, c53, c64, e73⟩ (by first | exact Or.inl ⟨rfl, c97⟩ | exact Or.inr ⟨rfl, c97⟩) (by first | exact Or.inl ⟨rfl, c124⟩ | exact Or.inr ⟨rfl, c124⟩))
                      · refine VW.iconst (pc' := 128) d_Model_isTooMuch_127 rfl (by decide) ?_
                        refine VW.goto (pc' := 132) d_Model_isTooMuch_128 rfl ?_
                        refine VW.isub (pc' := 133) d_Model_isTooMuch_132 rfl (by omega) ?_
                        refine VW.istore (pc' := 135) d_Model_isTooMuch_133 rfl rfl ?_
                        refine VW.iinc (pc' := 138) d_Model_isTooMuch_135 rfl rfl rfl (by omega) ?_
                        refine VW.goto (pc' := 26) d_Model_isTooMuch_138 rfl ?_
                        refine VW.nrm ?_
                        rw [em]
                        exact ih2 (m + 1) _ (by omega) (by first | exact hz.trans (mSz_no (fun y => c42 y.1)).symm | exact hz.trans (mSz_no (fun y => c53 y.2.1)).symm | exact hz.trans (mSz_no (fun y => c64 y.2.2.1)).symm | exact hz.trans (mSz_no (fun y => e73 y.2.2.2)).symm | exact mSz_hit hz ⟨c42, c53, c64, e73⟩ (by first | exact Or.inl ⟨rfl, c97⟩ | exact Or.inr ⟨rfl, c97⟩) (by first | exact Or.inl ⟨rfl, c124⟩ | exact Or.inr ⟨rfl, c124⟩))
      refine VW.iload_n (pc' := 5) d_Model_isTooMuch_4 rfl rfl ?_
      refine VW.aload_n (pc' := 6) d_Model_isTooMuch_5 rfl rfl ?_
      refine VW.gI (ci := 11) (T := T11) (N := 94) (k := 0) (k' := 0) (pc' := 9) d_Model_isTooMuch_6 rfl lk_Model_239 in11 rfl rfl rfl rfl (hM.k rfl) (by first | assumption | (simp [up2] <;> rfl) | rfl) ?_
      refine VW.icmp_ge (tgt := 164) (pc' := 12) d_Model_isTooMuch_9 rfl rfl (fun c9 => ?_) (fun c9 => ?_)
      · exfalso; omega
      · refine VW.aload_n (pc' := 13) d_Model_isTooMuch_12 rfl rfl ?_
        refine VW.gP (ci := 11) (T := T11) (N := 94) (k := 14) (k' := 14) (pc' := 16) d_Model_isTooMuch_13 rfl lk_Model_46 in11 rfl rfl rfl rfl (hM.k rfl) (hM.p (r := some 214) 14 rfl rfl) ?_
        refine VW.bipush (pc' := 18) d_Model_isTooMuch_16 rfl (by decide) ?_
        refine VW.iload_n (pc' := 19) d_Model_isTooMuch_18 rfl rfl ?_
        refine VW.iadd (pc' := 20) d_Model_isTooMuch_19 rfl (by omega) ?_
        refine VW.ild (pc' := 21) d_Model_isTooMuch_20 rfl (hM.k rfl) (by omega) (by omega) (by first | assumption | (simp [up2] <;> rfl) | rfl) ?_
        refine VW.istore (pc' := 23) d_Model_isTooMuch_21 rfl rfl ?_
        refine VW.iconst (pc' := 24) d_Model_isTooMuch_23 rfl (by decide) ?_
        refine VW.istore (pc' := 26) d_Model_isTooMuch_24 rfl rfl ?_
        refine VW.nrm ?_
        exact loop2 (I 100 44).toNat 0 _ (by omega) rfl
  refine VW.iconst (pc' := 1) d_Model_isTooMuch_0 rfl (by decide) ?_
  refine VW.istore_n (pc' := 2) d_Model_isTooMuch_1 rfl rfl ?_
  refine VW.iconst (pc' := 3) d_Model_isTooMuch_2 rfl (by decide) ?_
  refine VW.istore_n (pc' := 4) d_Model_isTooMuch_3 rfl rfl ?_
  refine VW.nrm ?_
  exact loop1 (I 100 0).toNat 0 0 (by omega) (by omega) orI.z
/-- a row of a transaction's copy goes to what is committed -/
noncomputable def mcomR (I : IT) (s t key : Int) : IT :=
  if mfind I s t key = -1 then (if mfind I 4 t key = -1 then I else cpyI (up2 I 214 (6 * 4 + t) (I 214 (6 * 4 + t) - 1)) 215 (mrow 4 t (I 214 (6 * 4 + t) - 1)) 215 (mrow 4 t (mfind I 4 t key)) 4)
  else if mfind I 4 t key = -1 then cpyI (up2 I 214 (24 + t) (I 214 (24 + t) + 1)) 215 (mrow s t (mfind I s t key)) 215 (mrow 4 t (I 214 (24 + t))) 4
  else cpyI I 215 (mrow s t (mfind I s t key)) 215 (mrow 4 t (mfind I 4 t key)) 4
theorem mcomR_a {I : IT} {s t key : Int} (h : mfind I s t key = -1) (h2 : mfind I 4 t key = -1) : mcomR I s t key = I := (if_pos h).trans (if_pos h2)
theorem mcomR_b {I : IT} {s t key : Int} (h : mfind I s t key = -1) (h2 : mfind I 4 t key ≠ -1) : mcomR I s t key = cpyI (up2 I 214 (6 * 4 + t) (I 214 (6 * 4 + t) - 1)) 215 (mrow 4 t (I 214 (6 * 4 + t) - 1)) 215 (mrow 4 t (mfind I 4 t key)) 4 := (if_pos h).trans (if_neg h2)
theorem mcomR_c {I : IT} {s t key : Int} (h : mfind I s t key ≠ -1) (h2 : mfind I 4 t key = -1) : mcomR I s t key = cpyI (up2 I 214 (24 + t) (I 214 (24 + t) + 1)) 215 (mrow s t (mfind I s t key)) 215 (mrow 4 t (I 214 (24 + t))) 4 := (if_neg h).trans (if_pos h2)
theorem mcomR_d {I : IT} {s t key : Int} (h : mfind I s t key ≠ -1) (h2 : mfind I 4 t key ≠ -1) : mcomR I s t key = cpyI I 215 (mrow s t (mfind I s t key)) 215 (mrow 4 t (mfind I 4 t key)) 4 := (if_neg h).trans (if_neg h2)
noncomputable def mcom (I : IT) (i t key : Int) : IT := up2 (up2 (mcomR I (I 223 i) t key) 217 (2001 * t + key + 1000) (I 100 16)) 218 t (I 100 16)
theorem mcom_of {I S : IT} {i t key : Int} (h : mcomR I (I 223 i) t key = S) (h2 : S 100 16 = I 100 16) : mcom I i t key = up2 (up2 S 217 (2001 * t + key + 1000) (S 100 16)) 218 t (S 100 16) := by rw [h2, ← h]; rfl
theorem sp_Model_commits {i t key : Int} (hM : MW K P) (hb : MB I) (hi : 0 ≤ i ∧ i < 60) (ht : 0 ≤ t ∧ t < 6) (hk : -1000 ≤ key ∧ key ≤ 1000) : Sp m_Model_commits false (rmv 3 73) (ex K P J (mcom I i t key) (.inl none)) K P J I [vR (some 100), vI i, vI t, vI key] := by
  refine Sp.ofV (by decide) (Or.inr rfl) rfl ?_
  have p0 := hb.pla i
  have r1 := hb.row (6 * I 223 i + t)
  have r2 := hb.row (6 * 4 + t)
  have r3 := hb.row (24 + t)
  have m1 := mfind_rg I (I 223 i) t key
  have m2 := mfind_rg I 4 t key
  refine VW.aload_n (pc' := 1) d_Model_commits_0 rfl rfl ?_
  refine VW.aload_n (pc' := 2) d_Model_commits_1 rfl rfl ?_
  refine VW.gP (ci := 11) (T := T11) (N := 94) (k := 23) (k' := 23) (pc' := 5) d_Model_commits_2 rfl lk_Model_67 in11 rfl rfl rfl rfl (hM.k rfl) (hM.p (r := some 223) 23 rfl rfl) ?_
  refine VW.iload_n (pc' := 6) d_Model_commits_5 rfl rfl ?_
  refine VW.ild (pc' := 7) d_Model_commits_6 rfl (hM.k rfl) (by omega) (by omega) (by first | assumption | (simp [up2] <;> rfl) | rfl) ?_
  refine VW.iload_n (pc' := 8) d_Model_commits_7 rfl rfl ?_
  refine VW.iload_n (pc' := 9) d_Model_commits_8 rfl rfl ?_
  refine VW.cV (ci := 11) (T := T11) (N := 94) (pc' := 12) d_Model_commits_9 rfl mv_Model_find lk_Model_305 rfl (hM.k rfl) rfl rfl rfl (Nat.le_refl _) (Nat.le_refl _) (sp_Model_find hM (by omega) (by omega) (by omega)) rfl rfl ?_
  refine VW.istore (pc' := 14) d_Model_commits_12 rfl rfl ?_
  refine VW.aload_n (pc' := 15) d_Model_commits_14 rfl rfl ?_
  refine VW.iconst (pc' := 16) d_Model_commits_15 rfl (by decide) ?_
  refine VW.iload_n (pc' := 17) d_Model_commits_16 rfl rfl ?_
  refine VW.iload_n (pc' := 18) d_Model_commits_17 rfl rfl ?_
  refine VW.cV (ci := 11) (T := T11) (N := 94) (pc' := 21) d_Model_commits_18 rfl mv_Model_find lk_Model_305 rfl (hM.k rfl) rfl rfl rfl (Nat.le_refl _) (Nat.le_refl _) (sp_Model_find hM (by omega) (by omega) (by omega)) rfl rfl ?_
  refine VW.istore (pc' := 23) d_Model_commits_21 rfl rfl ?_
  refine VW.iload (pc' := 25) d_Model_commits_23 rfl rfl ?_
  refine VW.iconst (pc' := 26) d_Model_commits_25 rfl (by decide) ?_
  refine VW.icmp_ne (tgt := 46) (pc' := 29) d_Model_commits_26 rfl rfl (fun c26 => ?_) (fun c26 => ?_)
  · refine VW.iload (pc' := 48) d_Model_commits_46 rfl rfl ?_
    refine VW.iconst (pc' := 49) d_Model_commits_48 rfl (by decide) ?_
    refine VW.icmp_eq (tgt := 102) (pc' := 52) d_Model_commits_49 rfl rfl (fun c49 => ?_) (fun c49 => ?_)
    · refine VW.aload_n (pc' := 103) d_Model_commits_102 rfl rfl ?_
      refine VW.gP (ci := 11) (T := T11) (N := 94) (k := 17) (k' := 17) (pc' := 106) d_Model_commits_103 rfl lk_Model_52 in11 rfl rfl rfl rfl (hM.k rfl) (hM.p (r := some 217) 17 rfl rfl) ?_
      refine VW.sipush (pc' := 109) d_Model_commits_106 rfl (by decide) ?_
      refine VW.iload_n (pc' := 110) d_Model_commits_109 rfl rfl ?_
      refine VW.imul (pc' := 111) d_Model_commits_110 rfl (by omega) ?_
      refine VW.iload_n (pc' := 112) d_Model_commits_111 rfl rfl ?_
      refine VW.iadd (pc' := 113) d_Model_commits_112 rfl (by omega) ?_
      refine VW.sipush (pc' := 116) d_Model_commits_113 rfl (by decide) ?_
      refine VW.iadd (pc' := 117) d_Model_commits_116 rfl (by omega) ?_
      refine VW.aload_n (pc' := 118) d_Model_commits_117 rfl rfl ?_
      refine VW.gI (ci := 11) (T := T11) (N := 94) (k := 16) (k' := 16) (pc' := 121) d_Model_commits_118 rfl lk_Model_285 in11 rfl rfl rfl rfl (hM.k rfl) (by first | assumption | (simp [up2] <;> rfl) | rfl) ?_
      refine VW.iast (pc' := 122) d_Model_commits_121 rfl (hM.k rfl) (by omega) (by omega) ?_
      refine VW.aload_n (pc' := 123) d_Model_commits_122 rfl rfl ?_
      refine VW.gP (ci := 11) (T := T11) (N := 94) (k := 18) (k' := 18) (pc' := 126) d_Model_commits_123 rfl lk_Model_55 in11 rfl rfl rfl rfl (hM.k rfl) (hM.p (r := some 218) 18 rfl rfl) ?_
      refine VW.iload_n (pc' := 127) d_Model_commits_126 rfl rfl ?_
      refine VW.aload_n (pc' := 128) d_Model_commits_127 rfl rfl ?_
      refine VW.gI (ci := 11) (T := T11) (N := 94) (k := 16) (k' := 16) (pc' := 131) d_Model_commits_128 rfl lk_Model_285 in11 rfl rfl rfl rfl (hM.k rfl) (by first | assumption | (simp [up2] <;> rfl) | rfl) ?_
      refine VW.iast (pc' := 132) d_Model_commits_131 rfl (hM.k rfl) (by omega) (by omega) ?_
      exact VW.vret d_Model_commits_132 rfl (Nat.zero_le _) (Nat.zero_le _) (by first | (exfalso; omega) | exact ex_i (mcom_of (mcomR_b c26 c32) (by simp [cpyI, up2])) | exact ex_i (mcom_of (mcomR_a c26 c32) (by simp [cpyI, up2])) | exact ex_i (mcom_of (mcomR_c c49 c59) (by simp [cpyI, up2])) | exact ex_i (mcom_of (mcomR_d c49 c59) (by simp [cpyI, up2])))
    · refine VW.iload (pc' := 54) d_Model_commits_52 rfl rfl ?_
      refine VW.istore (pc' := 56) d_Model_commits_54 rfl rfl ?_
      refine VW.iload (pc' := 58) d_Model_commits_56 rfl rfl ?_
      refine VW.iconst (pc' := 59) d_Model_commits_58 rfl (by decide) ?_
      refine VW.icmp_ne (tgt := 86) (pc' := 62) d_Model_commits_59 rfl rfl (fun c59 => ?_) (fun c59 => ?_)
      · refine VW.aload_n (pc' := 87) d_Model_commits_86 rfl rfl ?_
        refine VW.aload_n (pc' := 88) d_Model_commits_87 rfl rfl ?_
        refine VW.gP (ci := 11) (T := T11) (N := 94) (k := 23) (k' := 23) (pc' := 91) d_Model_commits_88 rfl lk_Model_67 in11 rfl rfl rfl rfl (hM.k rfl) (hM.p (r := some 223) 23 rfl rfl) ?_
        refine VW.iload_n (pc' := 92) d_Model_commits_91 rfl rfl ?_
        refine VW.ild (pc' := 93) d_Model_commits_92 rfl (hM.k rfl) (by omega) (by omega) (by first | assumption | (simp [up2] <;> rfl) | rfl) ?_
        refine VW.iload (pc' := 95) d_Model_commits_93 rfl rfl ?_
        refine VW.iconst (pc' := 96) d_Model_commits_95 rfl (by decide) ?_
        refine VW.iload (pc' := 98) d_Model_commits_96 rfl rfl ?_
        refine VW.iload_n (pc' := 99) d_Model_commits_98 rfl rfl ?_
        refine VW.cV (ci := 11) (T := T11) (N := 94) (pc' := 102) d_Model_commits_99 rfl mv_Model_copiesRow lk_Model_277 rfl (hM.k rfl) rfl rfl rfl (Nat.le_refl _) (Nat.le_refl _) (sp_Model_copiesRow hM (by omega) (by omega) (by omega) (by omega) (by omega)) rfl rfl ?_
        refine VW.aload_n (pc' := 103) d_Model_commits_102 rfl rfl ?_
        refine VW.gP (ci := 11) (T := T11) (N := 94) (k := 17) (k' := 17) (pc' := 106) d_Model_commits_103 rfl lk_Model_52 in11 rfl rfl rfl rfl (hM.k rfl) (hM.p (r := some 217) 17 rfl rfl) ?_
        refine VW.sipush (pc' := 109) d_Model_commits_106 rfl (by decide) ?_
        refine VW.iload_n (pc' := 110) d_Model_commits_109 rfl rfl ?_
        refine VW.imul (pc' := 111) d_Model_commits_110 rfl (by omega) ?_
        refine VW.iload_n (pc' := 112) d_Model_commits_111 rfl rfl ?_
        refine VW.iadd (pc' := 113) d_Model_commits_112 rfl (by omega) ?_
        refine VW.sipush (pc' := 116) d_Model_commits_113 rfl (by decide) ?_
        refine VW.iadd (pc' := 117) d_Model_commits_116 rfl (by omega) ?_
        refine VW.aload_n (pc' := 118) d_Model_commits_117 rfl rfl ?_
        refine VW.gI (ci := 11) (T := T11) (N := 94) (k := 16) (k' := 16) (pc' := 121) d_Model_commits_118 rfl lk_Model_285 in11 rfl rfl rfl rfl (hM.k rfl) (by first | assumption | (simp [up2] <;> rfl) | rfl) ?_
        refine VW.iast (pc' := 122) d_Model_commits_121 rfl (hM.k rfl) (by omega) (by omega) ?_
        refine VW.aload_n (pc' := 123) d_Model_commits_122 rfl rfl ?_
        refine VW.gP (ci := 11) (T := T11) (N := 94) (k := 18) (k' := 18) (pc' := 126) d_Model_commits_123 rfl lk_Model_55 in11 rfl rfl rfl rfl (hM.k rfl) (hM.p (r := some 218) 18 rfl rfl) ?_
        refine VW.iload_n (pc' := 127) d_Model_commits_126 rfl rfl ?_
        refine VW.aload_n (pc' := 128) d_Model_commits_127 rfl rfl ?_
        refine VW.gI (ci := 11) (T := T11) (N := 94) (k := 16) (k' := 16) (pc' := 131) d_Model_commits_128 rfl lk_Model_285 in11 rfl rfl rfl rfl (hM.k rfl) (by first | assumption | (simp [up2] <;> rfl) | rfl) ?_
        refine VW.iast (pc' := 132) d_Model_commits_131 rfl (hM.k rfl) (by omega) (by omega) ?_
        exact VW.vret d_Model_commits_132 rfl (Nat.zero_le _) (Nat.zero_le _) (by first | (exfalso; omega) | exact ex_i (mcom_of (mcomR_b c26 c32) (by simp [cpyI, up2])) | exact ex_i (mcom_of (mcomR_a c26 c32) (by simp [cpyI, up2])) | exact ex_i (mcom_of (mcomR_c c49 c59) (by simp [cpyI, up2])) | exact ex_i (mcom_of (mcomR_d c49 c59) (by simp [cpyI, up2])))
      · refine VW.aload_n (pc' := 63) d_Model_commits_62 rfl rfl ?_
        refine VW.gP (ci := 11) (T := T11) (N := 94) (k := 14) (k' := 14) (pc' := 66) d_Model_commits_63 rfl lk_Model_46 in11 rfl rfl rfl rfl (hM.k rfl) (hM.p (r := some 214) 14 rfl rfl) ?_
        refine VW.bipush (pc' := 68) d_Model_commits_66 rfl (by decide) ?_
        refine VW.iload_n (pc' := 69) d_Model_commits_68 rfl rfl ?_
        refine VW.iadd (pc' := 70) d_Model_commits_69 rfl (by omega) ?_
        refine VW.ild (pc' := 71) d_Model_commits_70 rfl (hM.k rfl) (by omega) (by omega) (by first | assumption | (simp [up2] <;> rfl) | rfl) ?_
        refine VW.istore (pc' := 73) d_Model_commits_71 rfl rfl ?_
        refine VW.aload_n (pc' := 74) d_Model_commits_73 rfl rfl ?_
        refine VW.gP (ci := 11) (T := T11) (N := 94) (k := 14) (k' := 14) (pc' := 77) d_Model_commits_74 rfl lk_Model_46 in11 rfl rfl rfl rfl (hM.k rfl) (hM.p (r := some 214) 14 rfl rfl) ?_
        refine VW.bipush (pc' := 79) d_Model_commits_77 rfl (by decide) ?_
        refine VW.iload_n (pc' := 80) d_Model_commits_79 rfl rfl ?_
        refine VW.iadd (pc' := 81) d_Model_commits_80 rfl (by omega) ?_
        refine VW.dup2 (pc' := 82) d_Model_commits_81 rfl rfl rfl ?_
        refine VW.ild (pc' := 83) d_Model_commits_82 rfl (hM.k rfl) (by omega) (by omega) (by first | assumption | (simp [up2] <;> rfl) | rfl) ?_
        refine VW.iconst (pc' := 84) d_Model_commits_83 rfl (by decide) ?_
        refine VW.iadd (pc' := 85) d_Model_commits_84 rfl (by omega) ?_
        refine VW.iast (pc' := 86) d_Model_commits_85 rfl (hM.k rfl) (by omega) (by omega) ?_
        refine VW.aload_n (pc' := 87) d_Model_commits_86 rfl rfl ?_
        refine VW.aload_n (pc' := 88) d_Model_commits_87 rfl rfl ?_
        refine VW.gP (ci := 11) (T := T11) (N := 94) (k := 23) (k' := 23) (pc' := 91) d_Model_commits_88 rfl lk_Model_67 in11 rfl rfl rfl rfl (hM.k rfl) (hM.p (r := some 223) 23 rfl rfl) ?_
        refine VW.iload_n (pc' := 92) d_Model_commits_91 rfl rfl ?_
        refine VW.ild (pc' := 93) d_Model_commits_92 rfl (hM.k rfl) (by omega) (by omega) (by first | assumption | (simp [up2] <;> rfl) | rfl) ?_
        refine VW.iload (pc' := 95) d_Model_commits_93 rfl rfl ?_
        refine VW.iconst (pc' := 96) d_Model_commits_95 rfl (by decide) ?_
        refine VW.iload (pc' := 98) d_Model_commits_96 rfl rfl ?_
        refine VW.iload_n (pc' := 99) d_Model_commits_98 rfl rfl ?_
        refine VW.cV (ci := 11) (T := T11) (N := 94) (pc' := 102) d_Model_commits_99 rfl mv_Model_copiesRow lk_Model_277 rfl (hM.k rfl) rfl rfl rfl (Nat.le_refl _) (Nat.le_refl _) (sp_Model_copiesRow hM (by omega) (by omega) (by omega) (by omega) (by omega)) rfl rfl ?_
        refine VW.aload_n (pc' := 103) d_Model_commits_102 rfl rfl ?_
        refine VW.gP (ci := 11) (T := T11) (N := 94) (k := 17) (k' := 17) (pc' := 106) d_Model_commits_103 rfl lk_Model_52 in11 rfl rfl rfl rfl (hM.k rfl) (hM.p (r := some 217) 17 rfl rfl) ?_
        refine VW.sipush (pc' := 109) d_Model_commits_106 rfl (by decide) ?_
        refine VW.iload_n (pc' := 110) d_Model_commits_109 rfl rfl ?_
        refine VW.imul (pc' := 111) d_Model_commits_110 rfl (by omega) ?_
        refine VW.iload_n (pc' := 112) d_Model_commits_111 rfl rfl ?_
        refine VW.iadd (pc' := 113) d_Model_commits_112 rfl (by omega) ?_
        refine VW.sipush (pc' := 116) d_Model_commits_113 rfl (by decide) ?_
        refine VW.iadd (pc' := 117) d_Model_commits_116 rfl (by omega) ?_
        refine VW.aload_n (pc' := 118) d_Model_commits_117 rfl rfl ?_
        refine VW.gI (ci := 11) (T := T11) (N := 94) (k := 16) (k' := 16) (pc' := 121) d_Model_commits_118 rfl lk_Model_285 in11 rfl rfl rfl rfl (hM.k rfl) (by first | assumption | (simp [up2] <;> rfl) | rfl) ?_
        refine VW.iast (pc' := 122) d_Model_commits_121 rfl (hM.k rfl) (by omega) (by omega) ?_
        refine VW.aload_n (pc' := 123) d_Model_commits_122 rfl rfl ?_
        refine VW.gP (ci := 11) (T := T11) (N := 94) (k := 18) (k' := 18) (pc' := 126) d_Model_commits_123 rfl lk_Model_55 in11 rfl rfl rfl rfl (hM.k rfl) (hM.p (r := some 218) 18 rfl rfl) ?_
        refine VW.iload_n (pc' := 127) d_Model_commits_126 rfl rfl ?_
        refine VW.aload_n (pc' := 128) d_Model_commits_127 rfl rfl ?_
        refine VW.gI (ci := 11) (T := T11) (N := 94) (k := 16) (k' := 16) (pc' := 131) d_Model_commits_128 rfl lk_Model_285 in11 rfl rfl rfl rfl (hM.k rfl) (by first | assumption | (simp [up2] <;> rfl) | rfl) ?_
        refine VW.iast (pc' := 132) d_Model_commits_131 rfl (hM.k rfl) (by omega) (by omega) ?_
        exact VW.vret d_Model_commits_132 rfl (Nat.zero_le _) (Nat.zero_le _) (by first | (exfalso; omega) | exact ex_i (mcom_of (mcomR_b c26 c32) (by simp [cpyI, up2])) | exact ex_i (mcom_of (mcomR_a c26 c32) (by simp [cpyI, up2])) | exact ex_i (mcom_of (mcomR_c c49 c59) (by simp [cpyI, up2])) | exact ex_i (mcom_of (mcomR_d c49 c59) (by simp [cpyI, up2])))
  · refine VW.iload (pc' := 31) d_Model_commits_29 rfl rfl ?_
    refine VW.iconst (pc' := 32) d_Model_commits_31 rfl (by decide) ?_
    refine VW.icmp_eq (tgt := 46) (pc' := 35) d_Model_commits_32 rfl rfl (fun c32 => ?_) (fun c32 => ?_)
    · refine VW.iload (pc' := 48) d_Model_commits_46 rfl rfl ?_
      refine VW.iconst (pc' := 49) d_Model_commits_48 rfl (by decide) ?_
      refine VW.icmp_eq (tgt := 102) (pc' := 52) d_Model_commits_49 rfl rfl (fun c49 => ?_) (fun c49 => ?_)
      · refine VW.aload_n (pc' := 103) d_Model_commits_102 rfl rfl ?_
        refine VW.gP (ci := 11) (T := T11) (N := 94) (k := 17) (k' := 17) (pc' := 106) d_Model_commits_103 rfl lk_Model_52 in11 rfl rfl rfl rfl (hM.k rfl) (hM.p (r := some 217) 17 rfl rfl) ?_
        refine VW.sipush (pc' := 109) d_Model_commits_106 rfl (by decide) ?_
        refine VW.iload_n (pc' := 110) d_Model_commits_109 rfl rfl ?_
        refine VW.imul (pc' := 111) d_Model_commits_110 rfl (by omega) ?_
        refine VW.iload_n (pc' := 112) d_Model_commits_111 rfl rfl ?_
        refine VW.iadd (pc' := 113) d_Model_commits_112 rfl (by omega) ?_
        refine VW.sipush (pc' := 116) d_Model_commits_113 rfl (by decide) ?_
        refine VW.iadd (pc' := 117) d_Model_commits_116 rfl (by omega) ?_
        refine VW.aload_n (pc' := 118) d_Model_commits_117 rfl rfl ?_
        refine VW.gI (ci := 11) (T := T11) (N := 94) (k := 16) (k' := 16) (pc' := 121) d_Model_commits_118 rfl lk_Model_285 in11 rfl rfl rfl rfl (hM.k rfl) (by first | assumption | (simp [up2] <;> rfl) | rfl) ?_
        refine VW.iast (pc' := 122) d_Model_commits_121 rfl (hM.k rfl) (by omega) (by omega) ?_
        refine VW.aload_n (pc' := 123) d_Model_commits_122 rfl rfl ?_
        refine VW.gP (ci := 11) (T := T11) (N := 94) (k := 18) (k' := 18) (pc' := 126) d_Model_commits_123 rfl lk_Model_55 in11 rfl rfl rfl rfl (hM.k rfl) (hM.p (r := some 218) 18 rfl rfl) ?_
        refine VW.iload_n (pc' := 127) d_Model_commits_126 rfl rfl ?_
        refine VW.aload_n (pc' := 128) d_Model_commits_127 rfl rfl ?_
        refine VW.gI (ci := 11) (T := T11) (N := 94) (k := 16) (k' := 16) (pc' := 131) d_Model_commits_128 rfl lk_Model_285 in11 rfl rfl rfl rfl (hM.k rfl) (by first | assumption | (simp [up2] <;> rfl) | rfl) ?_
        refine VW.iast (pc' := 132) d_Model_commits_131 rfl (hM.k rfl) (by omega) (by omega) ?_
        exact VW.vret d_Model_commits_132 rfl (Nat.zero_le _) (Nat.zero_le _) (by first | (exfalso; omega) | exact ex_i (mcom_of (mcomR_b c26 c32) (by simp [cpyI, up2])) | exact ex_i (mcom_of (mcomR_a c26 c32) (by simp [cpyI, up2])) | exact ex_i (mcom_of (mcomR_c c49 c59) (by simp [cpyI, up2])) | exact ex_i (mcom_of (mcomR_d c49 c59) (by simp [cpyI, up2])))
      · refine VW.iload (pc' := 54) d_Model_commits_52 rfl rfl ?_
        refine VW.istore (pc' := 56) d_Model_commits_54 rfl rfl ?_
        refine VW.iload (pc' := 58) d_Model_commits_56 rfl rfl ?_
        refine VW.iconst (pc' := 59) d_Model_commits_58 rfl (by decide) ?_
        refine VW.icmp_ne (tgt := 86) (pc' := 62) d_Model_commits_59 rfl rfl (fun c59 => ?_) (fun c59 => ?_)
        · refine VW.aload_n (pc' := 87) d_Model_commits_86 rfl rfl ?_
          refine VW.aload_n (pc' := 88) d_Model_commits_87 rfl rfl ?_
          refine VW.gP (ci := 11) (T := T11) (N := 94) (k := 23) (k' := 23) (pc' := 91) d_Model_commits_88 rfl lk_Model_67 in11 rfl rfl rfl rfl (hM.k rfl) (hM.p (r := some 223) 23 rfl rfl) ?_
          refine VW.iload_n (pc' := 92) d_Model_commits_91 rfl rfl ?_
          refine VW.ild (pc' := 93) d_Model_commits_92 rfl (hM.k rfl) (by omega) (by omega) (by first | assumption | (simp [up2] <;> rfl) | rfl) ?_
          refine VW.iload (pc' := 95) d_Model_commits_93 rfl rfl ?_
          refine VW.iconst (pc' := 96) d_Model_commits_95 rfl (by decide) ?_
          refine VW.iload (pc' := 98) d_Model_commits_96 rfl rfl ?_
          refine VW.iload_n (pc' := 99) d_Model_commits_98 rfl rfl ?_
          refine VW.cV (ci := 11) (T := T11) (N := 94) (pc' := 102) d_Model_commits_99 rfl mv_Model_copiesRow lk_Model_277 rfl (hM.k rfl) rfl rfl rfl (Nat.le_refl _) (Nat.le_refl _) (sp_Model_copiesRow hM (by omega) (by omega) (by omega) (by omega) (by omega)) rfl rfl ?_
          refine VW.aload_n (pc' := 103) d_Model_commits_102 rfl rfl ?_
          refine VW.gP (ci := 11) (T := T11) (N := 94) (k := 17) (k' := 17) (pc' := 106) d_Model_commits_103 rfl lk_Model_52 in11 rfl rfl rfl rfl (hM.k rfl) (hM.p (r := some 217) 17 rfl rfl) ?_
          refine VW.sipush (pc' := 109) d_Model_commits_106 rfl (by decide) ?_
          refine VW.iload_n (pc' := 110) d_Model_commits_109 rfl rfl ?_
          refine VW.imul (pc' := 111) d_Model_commits_110 rfl (by omega) ?_
          refine VW.iload_n (pc' := 112) d_Model_commits_111 rfl rfl ?_
          refine VW.iadd (pc' := 113) d_Model_commits_112 rfl (by omega) ?_
          refine VW.sipush (pc' := 116) d_Model_commits_113 rfl (by decide) ?_
          refine VW.iadd (pc' := 117) d_Model_commits_116 rfl (by omega) ?_
          refine VW.aload_n (pc' := 118) d_Model_commits_117 rfl rfl ?_
          refine VW.gI (ci := 11) (T := T11) (N := 94) (k := 16) (k' := 16) (pc' := 121) d_Model_commits_118 rfl lk_Model_285 in11 rfl rfl rfl rfl (hM.k rfl) (by first | assumption | (simp [up2] <;> rfl) | rfl) ?_
          refine VW.iast (pc' := 122) d_Model_commits_121 rfl (hM.k rfl) (by omega) (by omega) ?_
          refine VW.aload_n (pc' := 123) d_Model_commits_122 rfl rfl ?_
          refine VW.gP (ci := 11) (T := T11) (N := 94) (k := 18) (k' := 18) (pc' := 126) d_Model_commits_123 rfl lk_Model_55 in11 rfl rfl rfl rfl (hM.k rfl) (hM.p (r := some 218) 18 rfl rfl) ?_
          refine VW.iload_n (pc' := 127) d_Model_commits_126 rfl rfl ?_
          refine VW.aload_n (pc' := 128) d_Model_commits_127 rfl rfl ?_
          refine VW.gI (ci := 11) (T := T11) (N := 94) (k := 16) (k' := 16) (pc' := 131) d_Model_commits_128 rfl lk_Model_285 in11 rfl rfl rfl rfl (hM.k rfl) (by first | assumption | (simp [up2] <;> rfl) | rfl) ?_
          refine VW.iast (pc' := 132) d_Model_commits_131 rfl (hM.k rfl) (by omega) (by omega) ?_
          exact VW.vret d_Model_commits_132 rfl (Nat.zero_le _) (Nat.zero_le _) (by first | (exfalso; omega) | exact ex_i (mcom_of (mcomR_b c26 c32) (by simp [cpyI, up2])) | exact ex_i (mcom_of (mcomR_a c26 c32) (by simp [cpyI, up2])) | exact ex_i (mcom_of (mcomR_c c49 c59) (by simp [cpyI, up2])) | exact ex_i (mcom_of (mcomR_d c49 c59) (by simp [cpyI, up2])))
        · refine VW.aload_n (pc' := 63) d_Model_commits_62 rfl rfl ?_
          refine VW.gP (ci := 11) (T := T11) (N := 94) (k := 14) (k' := 14) (pc' := 66) d_Model_commits_63 rfl lk_Model_46 in11 rfl rfl rfl rfl (hM.k rfl) (hM.p (r := some 214) 14 rfl rfl) ?_
          refine VW.bipush (pc' := 68) d_Model_commits_66 rfl (by decide) ?_
          refine VW.iload_n (pc' := 69) d_Model_commits_68 rfl rfl ?_
          refine VW.iadd (pc' := 70) d_Model_commits_69 rfl (by omega) ?_
          refine VW.ild (pc' := 71) d_Model_commits_70 rfl (hM.k rfl) (by omega) (by omega) (by first | assumption | (simp [up2] <;> rfl) | rfl) ?_
          refine VW.istore (pc' := 73) d_Model_commits_71 rfl rfl ?_
          refine VW.aload_n (pc' := 74) d_Model_commits_73 rfl rfl ?_
          refine VW.gP (ci := 11) (T := T11) (N := 94) (k := 14) (k' := 14) (pc' := 77) d_Model_commits_74 rfl lk_Model_46 in11 rfl rfl rfl rfl (hM.k rfl) (hM.p (r := some 214) 14 rfl rfl) ?_
          refine VW.bipush (pc' := 79) d_Model_commits_77 rfl (by decide) ?_
          refine VW.iload_n (pc' := 80) d_Model_commits_79 rfl rfl ?_
          refine VW.iadd (pc' := 81) d_Model_commits_80 rfl (by omega) ?_
          refine VW.dup2 (pc' := 82) d_Model_commits_81 rfl rfl rfl ?_
          refine VW.ild (pc' := 83) d_Model_commits_82 rfl (hM.k rfl) (by omega) (by omega) (by first | assumption | (simp [up2] <;> rfl) | rfl) ?_
          refine VW.iconst (pc' := 84) d_Model_commits_83 rfl (by decide) ?_
          refine VW.iadd (pc' := 85) d_Model_commits_84 rfl (by omega) ?_
          refine VW.iast (pc' := 86) d_Model_commits_85 rfl (hM.k rfl) (by omega) (by omega) ?_
          refine VW.aload_n (pc' := 87) d_Model_commits_86 rfl rfl ?_
          refine VW.aload_n (pc' := 88) d_Model_commits_87 rfl rfl ?_
          refine VW.gP (ci := 11) (T := T11) (N := 94) (k := 23) (k' := 23) (pc' := 91) d_Model_commits_88 rfl lk_Model_67 in11 rfl rfl rfl rfl (hM.k rfl) (hM.p (r := some 223) 23 rfl rfl) ?_
          refine VW.iload_n (pc' := 92) d_Model_commits_91 rfl rfl ?_
          refine VW.ild (pc' := 93) d_Model_commits_92 rfl (hM.k rfl) (by omega) (by omega) (by first | assumption | (simp [up2] <;> rfl) | rfl) ?_
          refine VW.iload (pc' := 95) d_Model_commits_93 rfl rfl ?_
          refine VW.iconst (pc' := 96) d_Model_commits_95 rfl (by decide) ?_
          refine VW.iload (pc' := 98) d_Model_commits_96 rfl rfl ?_
          refine VW.iload_n (pc' := 99) d_Model_commits_98 rfl rfl ?_
          refine VW.cV (ci := 11) (T := T11) (N := 94) (pc' := 102) d_Model_commits_99 rfl mv_Model_copiesRow lk_Model_277 rfl (hM.k rfl) rfl rfl rfl (Nat.le_refl _) (Nat.le_refl _) (sp_Model_copiesRow hM (by omega) (by omega) (by omega) (by omega) (by omega)) rfl rfl ?_
          refine VW.aload_n (pc' := 103) d_Model_commits_102 rfl rfl ?_
          refine VW.gP (ci := 11) (T := T11) (N := 94) (k := 17) (k' := 17) (pc' := 106) d_Model_commits_103 rfl lk_Model_52 in11 rfl rfl rfl rfl (hM.k rfl) (hM.p (r := some 217) 17 rfl rfl) ?_
          refine VW.sipush (pc' := 109) d_Model_commits_106 rfl (by decide) ?_
          refine VW.iload_n (pc' := 110) d_Model_commits_109 rfl rfl ?_
          refine VW.imul (pc' := 111) d_Model_commits_110 rfl (by omega) ?_
          refine VW.iload_n (pc' := 112) d_Model_commits_111 rfl rfl ?_
          refine VW.iadd (pc' := 113) d_Model_commits_112 rfl (by omega) ?_
          refine VW.sipush (pc' := 116) d_Model_commits_113 rfl (by decide) ?_
          refine VW.iadd (pc' := 117) d_Model_commits_116 rfl (by omega) ?_
          refine VW.aload_n (pc' := 118) d_Model_commits_117 rfl rfl ?_
          refine VW.gI (ci := 11) (T := T11) (N := 94) (k := 16) (k' := 16) (pc' := 121) d_Model_commits_118 rfl lk_Model_285 in11 rfl rfl rfl rfl (hM.k rfl) (by first | assumption | (simp [up2] <;> rfl) | rfl) ?_
          refine VW.iast (pc' := 122) d_Model_commits_121 rfl (hM.k rfl) (by omega) (by omega) ?_
          refine VW.aload_n (pc' := 123) d_Model_commits_122 rfl rfl ?_
          refine VW.gP (ci := 11) (T := T11) (N := 94) (k := 18) (k' := 18) (pc' := 126) d_Model_commits_123 rfl lk_Model_55 in11 rfl rfl rfl rfl (hM.k rfl) (hM.p (r := some 218) 18 rfl rfl) ?_
          refine VW.iload_n (pc' := 127) d_Model_commits_126 rfl rfl ?_
          refine VW.aload_n (pc' := 128) d_Model_commits_127 rfl rfl ?_
          refine VW.gI (ci := 11) (T := T11) (N := 94) (k := 16) (k' := 16) (pc' := 131) d_Model_commits_128 rfl lk_Model_285 in11 rfl rfl rfl rfl (hM.k rfl) (by first | assumption | (simp [up2] <;> rfl) | rfl) ?_
          refine VW.iast (pc' := 132) d_Model_commits_131 rfl (hM.k rfl) (by omega) (by omega) ?_
          exact VW.vret d_Model_commits_132 rfl (Nat.zero_le _) (Nat.zero_le _) (by first | (exfalso; omega) | exact ex_i (mcom_of (mcomR_b c26 c32) (by simp [cpyI, up2])) | exact ex_i (mcom_of (mcomR_a c26 c32) (by simp [cpyI, up2])) | exact ex_i (mcom_of (mcomR_c c49 c59) (by simp [cpyI, up2])) | exact ex_i (mcom_of (mcomR_d c49 c59) (by simp [cpyI, up2])))
    · refine VW.aload_n (pc' := 36) d_Model_commits_35 rfl rfl ?_
      refine VW.iconst (pc' := 37) d_Model_commits_36 rfl (by decide) ?_
      refine VW.iload_n (pc' := 38) d_Model_commits_37 rfl rfl ?_
      refine VW.iload (pc' := 40) d_Model_commits_38 rfl rfl ?_
      refine VW.cV (ci := 11) (T := T11) (N := 94) (pc' := 43) d_Model_commits_40 rfl mv_Model_takesOut lk_Model_344 rfl (hM.k rfl) rfl rfl rfl (Nat.le_refl _) (Nat.le_refl _) (sp_Model_takesOut hM (by omega) (by omega) (by omega)) rfl rfl ?_
      refine VW.goto (pc' := 102) d_Model_commits_43 rfl ?_
      refine VW.aload_n (pc' := 103) d_Model_commits_102 rfl rfl ?_
      refine VW.gP (ci := 11) (T := T11) (N := 94) (k := 17) (k' := 17) (pc' := 106) d_Model_commits_103 rfl lk_Model_52 in11 rfl rfl rfl rfl (hM.k rfl) (hM.p (r := some 217) 17 rfl rfl) ?_
      refine VW.sipush (pc' := 109) d_Model_commits_106 rfl (by decide) ?_
      refine VW.iload_n (pc' := 110) d_Model_commits_109 rfl rfl ?_
      refine VW.imul (pc' := 111) d_Model_commits_110 rfl (by omega) ?_
      refine VW.iload_n (pc' := 112) d_Model_commits_111 rfl rfl ?_
      refine VW.iadd (pc' := 113) d_Model_commits_112 rfl (by omega) ?_
      refine VW.sipush (pc' := 116) d_Model_commits_113 rfl (by decide) ?_
      refine VW.iadd (pc' := 117) d_Model_commits_116 rfl (by omega) ?_
      refine VW.aload_n (pc' := 118) d_Model_commits_117 rfl rfl ?_
      refine VW.gI (ci := 11) (T := T11) (N := 94) (k := 16) (k' := 16) (pc' := 121) d_Model_commits_118 rfl lk_Model_285 in11 rfl rfl rfl rfl (hM.k rfl) (by first | assumption | (simp [up2] <;> rfl) | rfl) ?_
      refine VW.iast (pc' := 122) d_Model_commits_121 rfl (hM.k rfl) (by omega) (by omega) ?_
      refine VW.aload_n (pc' := 123) d_Model_commits_122 rfl rfl ?_
      refine VW.gP (ci := 11) (T := T11) (N := 94) (k := 18) (k' := 18) (pc' := 126) d_Model_commits_123 rfl lk_Model_55 in11 rfl rfl rfl rfl (hM.k rfl) (hM.p (r := some 218) 18 rfl rfl) ?_
      refine VW.iload_n (pc' := 127) d_Model_commits_126 rfl rfl ?_
      refine VW.aload_n (pc' := 128) d_Model_commits_127 rfl rfl ?_
      refine VW.gI (ci := 11) (T := T11) (N := 94) (k := 16) (k' := 16) (pc' := 131) d_Model_commits_128 rfl lk_Model_285 in11 rfl rfl rfl rfl (hM.k rfl) (by first | assumption | (simp [up2] <;> rfl) | rfl) ?_
      refine VW.iast (pc' := 132) d_Model_commits_131 rfl (hM.k rfl) (by omega) (by omega) ?_
      exact VW.vret d_Model_commits_132 rfl (Nat.zero_le _) (Nat.zero_le _) (by first | (exfalso; omega) | exact ex_i (mcom_of (mcomR_b c26 c32) (by simp [cpyI, up2])) | exact ex_i (mcom_of (mcomR_a c26 c32) (by simp [cpyI, up2])) | exact ex_i (mcom_of (mcomR_c c49 c59) (by simp [cpyI, up2])) | exact ex_i (mcom_of (mcomR_d c49 c59) (by simp [cpyI, up2])))
end
