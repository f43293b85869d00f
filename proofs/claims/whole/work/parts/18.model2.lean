section
variable {K : KT} {P : PT} {J I : IT}
theorem orI.h01 {g : Int → Prop} {lo k is : Int} (h : orI g lo k is) : is = 0 ∨ is = 1 := h.elim (fun q => Or.inr q.1) (fun q => Or.inl q.1)
theorem andI.h01 {g : Int → Prop} {lo k is : Int} (h : andI g lo k is) : is = 0 ∨ is = 1 := h.elim (fun q => Or.inr q.1) (fun q => Or.inl q.1)
theorem sp_Model_isUnderWay (hM : MW K P) (h0 : 0 ≤ I 100 19) (h6 : I 100 19 ≤ 60) : Sp m_Model_isUnderWay false (rmv 0 0) (ex K P J I (.inl (some (vI (bI (∃ j, 0 ≤ j ∧ j < I 100 19 ∧ I 221 j < 2)))))) K P J I [vR (some 100)] := by
  refine Sp.ofV (by decide) (Or.inr rfl) rfl ?_
  have loop : ∀ (n : Nat) (k is : Int), k + n = I 100 19 → 0 ≤ k → orI (fun j => I 221 j < 2) 0 k is → VW m_Model_isUnderWay false (rmv 0 0) (ex K P J I (.inl (some (vI (bI (∃ j, 0 ≤ j ∧ j < I 100 19 ∧ I 221 j < 2)))))) K P J I 0 0 4 [(0, vR (some 100)), (1, vI is), (2, vI k)] [] := by
    intro n
    induction n with
    | zero =>
      intro k is hk hq hi
      refine VW.iload_n (pc' := 5) d_Model_isUnderWay_4 rfl rfl ?_
      refine VW.aload_n (pc' := 6) d_Model_isUnderWay_5 rfl rfl ?_
      refine VW.gI (ci := 11) (T := T11) (N := 94) (k := 19) (k' := 19) (pc' := 9) d_Model_isUnderWay_6 rfl lk_Model_247 in11 rfl rfl rfl rfl (hM.k rfl) (by first | assumption | (simp [up2] <;> rfl) | rfl) ?_
      refine VW.icmp_ge (tgt := 38) (pc' := 12) d_Model_isUnderWay_9 rfl rfl (fun c9 => ?_) (fun c9 => ?_)
      · refine VW.iload_n (pc' := 39) d_Model_isUnderWay_38 rfl rfl ?_
        exact VW.iret d_Model_isUnderWay_39 rfl (narZ hi.h01) (Nat.zero_le _) (Nat.zero_le _) (by rw [show I 100 19 = k by omega, ← hi.bI]; exact ex_rf)
      · exfalso; omega
    | succ n ih =>
      intro k is hk hq hi
      refine VW.iload_n (pc' := 5) d_Model_isUnderWay_4 rfl rfl ?_
      refine VW.aload_n (pc' := 6) d_Model_isUnderWay_5 rfl rfl ?_
      refine VW.gI (ci := 11) (T := T11) (N := 94) (k := 19) (k' := 19) (pc' := 9) d_Model_isUnderWay_6 rfl lk_Model_247 in11 rfl rfl rfl rfl (hM.k rfl) (by first | assumption | (simp [up2] <;> rfl) | rfl) ?_
      refine VW.icmp_ge (tgt := 38) (pc' := 12) d_Model_isUnderWay_9 rfl rfl (fun c9 => ?_) (fun c9 => ?_)
      · exfalso; omega
      · refine VW.iload_n (pc' := 13) d_Model_isUnderWay_12 rfl rfl ?_
        refine VW.if_ne (tgt := 26) (pc' := 16) d_Model_isUnderWay_13 rfl rfl (fun c13 => ?_) (fun c13 => ?_)
        · try have e13 := bIn c13
          refine VW.iconst (pc' := 27) d_Model_isUnderWay_26 rfl (by decide) ?_
          refine VW.goto (pc' := 31) d_Model_isUnderWay_27 rfl ?_
          refine VW.istore_n (pc' := 32) d_Model_isUnderWay_31 rfl rfl ?_
          refine VW.iinc (pc' := 35) d_Model_isUnderWay_32 rfl rfl rfl (by omega) ?_
          refine VW.goto (pc' := 4) d_Model_isUnderWay_35 rfl ?_
          refine VW.nrm ?_
          exact ih (k + 1) _ (by omega) (by omega) (by first | exact hi.keep c13 | exact orI.hit hq c23 | exact hi.no c13 (by omega))
        · try have e13 := bIe c13
          refine VW.aload_n (pc' := 17) d_Model_isUnderWay_16 rfl rfl ?_
          refine VW.gP (ci := 11) (T := T11) (N := 94) (k := 21) (k' := 21) (pc' := 20) d_Model_isUnderWay_17 rfl lk_Model_61 in11 rfl rfl rfl rfl (hM.k rfl) (hM.p (r := some 221) 21 rfl rfl) ?_
          refine VW.iload_n (pc' := 21) d_Model_isUnderWay_20 rfl rfl ?_
          refine VW.ild (pc' := 22) d_Model_isUnderWay_21 rfl (hM.k rfl) (by omega) (by omega) (by first | assumption | (simp [up2] <;> rfl) | rfl) ?_
          refine VW.iconst (pc' := 23) d_Model_isUnderWay_22 rfl (by decide) ?_
          refine VW.icmp_ge (tgt := 30) (pc' := 26) d_Model_isUnderWay_23 rfl rfl (fun c23 => ?_) (fun c23 => ?_)
          · refine VW.iconst (pc' := 31) d_Model_isUnderWay_30 rfl (by decide) ?_
            refine VW.istore_n (pc' := 32) d_Model_isUnderWay_31 rfl rfl ?_
            refine VW.iinc (pc' := 35) d_Model_isUnderWay_32 rfl rfl rfl (by omega) ?_
            refine VW.goto (pc' := 4) d_Model_isUnderWay_35 rfl ?_
            refine VW.nrm ?_
            exact ih (k + 1) _ (by omega) (by omega) (by first | exact hi.keep c13 | exact orI.hit hq c23 | exact hi.no c13 (by omega))
          · refine VW.iconst (pc' := 27) d_Model_isUnderWay_26 rfl (by decide) ?_
            refine VW.goto (pc' := 31) d_Model_isUnderWay_27 rfl ?_
            refine VW.istore_n (pc' := 32) d_Model_isUnderWay_31 rfl rfl ?_
            refine VW.iinc (pc' := 35) d_Model_isUnderWay_32 rfl rfl rfl (by omega) ?_
            refine VW.goto (pc' := 4) d_Model_isUnderWay_35 rfl ?_
            refine VW.nrm ?_
            exact ih (k + 1) _ (by omega) (by omega) (by first | exact hi.keep c13 | exact orI.hit hq c23 | exact hi.no c13 (by omega))
  refine VW.iconst (pc' := 1) d_Model_isUnderWay_0 rfl (by decide) ?_
  refine VW.istore_n (pc' := 2) d_Model_isUnderWay_1 rfl rfl ?_
  refine VW.iconst (pc' := 3) d_Model_isUnderWay_2 rfl (by decide) ?_
  refine VW.istore_n (pc' := 4) d_Model_isUnderWay_3 rfl rfl ?_
  refine VW.nrm ?_
  exact loop (I 100 19).toNat 0 0 (by omega) (by omega) orI.z
theorem sp_Model_throwsPlans (hM : MW K P) : Sp m_Model_throwsPlans false (rmv 0 0) (ex K P J (filI I 263 0 20 0) (.inl none)) K P J I [vR (some 100)] := by
  refine Sp.ofV (by decide) (Or.inr rfl) rfl ?_
  have loop : ∀ (m : Nat) (p : Int), p + m = 20 → 0 ≤ p → VW m_Model_throwsPlans false (rmv 0 0) (ex K P J (filI I 263 0 20 0) (.inl none)) K P J (filI I 263 0 p 0) 0 0 2 [(0, vR (some 100)), (1, vI p)] [] := by
    intro m
    induction m with
    | zero =>
      intro p hp hq
      refine VW.iload_n (pc' := 3) d_Model_throwsPlans_2 rfl rfl ?_
      refine VW.bipush (pc' := 5) d_Model_throwsPlans_3 rfl (by decide) ?_
      refine VW.icmp_ge (tgt := 21) (pc' := 8) d_Model_throwsPlans_5 rfl rfl (fun c5 => ?_) (fun c5 => ?_)
      · exact VW.vret d_Model_throwsPlans_21 rfl (Nat.zero_le _) (Nat.zero_le _) (by rw [show p = 20 by omega]; exact ex_rf)
      · exfalso; omega
    | succ m ih =>
      intro p hp hq
      refine VW.iload_n (pc' := 3) d_Model_throwsPlans_2 rfl rfl ?_
      refine VW.bipush (pc' := 5) d_Model_throwsPlans_3 rfl (by decide) ?_
      refine VW.icmp_ge (tgt := 21) (pc' := 8) d_Model_throwsPlans_5 rfl rfl (fun c5 => ?_) (fun c5 => ?_)
      · exfalso; omega
      · refine VW.aload_n (pc' := 9) d_Model_throwsPlans_8 rfl rfl ?_
        refine VW.gP (ci := 11) (T := T11) (N := 94) (k := 63) (k' := 63) (pc' := 12) d_Model_throwsPlans_9 rfl lk_Model_162 in11 rfl rfl rfl rfl (hM.k rfl) (hM.p (r := some 263) 63 rfl rfl) ?_
        refine VW.iload_n (pc' := 13) d_Model_throwsPlans_12 rfl rfl ?_
        refine VW.iconst (pc' := 14) d_Model_throwsPlans_13 rfl (by decide) ?_
        refine VW.zast (pc' := 15) d_Model_throwsPlans_14 rfl (hM.k rfl) (by omega) (by omega) (by omega) ?_
        refine VW.nrm ?_
        rw [filI_step hq]
        refine VW.iinc (pc' := 18) d_Model_throwsPlans_15 rfl rfl rfl (by omega) ?_
        refine VW.goto (pc' := 2) d_Model_throwsPlans_18 rfl ?_
        refine VW.nrm ?_
        exact ih (p + 1) (by omega) (by omega)
  refine VW.iconst (pc' := 1) d_Model_throwsPlans_0 rfl (by decide) ?_
  refine VW.istore_n (pc' := 2) d_Model_throwsPlans_1 rfl rfl ?_
  refine VW.nrm ?_
  have h := loop 20 0 (by omega) (by omega)
  rw [filI_0 (hi := 0) (Int.le_refl 0)] at h
  exact h
/-- the row with a key in a state of the reference, -1 if there is none -/
noncomputable def mfind (I : IT) (s t key : Int) : Int := fs (fun r => I 215 (4 * (64 * (6 * s + t) + r)) = key) 0 (I 214 (6 * s + t)).toNat
theorem sp_Model_find {s t key : Int} (hM : MW K P) (hs : 0 ≤ s ∧ s ≤ 4) (ht : 0 ≤ t ∧ t < 6) (hr : 0 ≤ I 214 (6 * s + t) ∧ I 214 (6 * s + t) ≤ 64) : Sp m_Model_find false (rmv 1 23) (ex K P J I (.inl (some (vI (mfind I s t key))))) K P J I [vR (some 100), vI s, vI t, vI key] := by
  refine Sp.ofV (by decide) (Or.inr rfl) rfl ?_
  have loop : ∀ (n : Nat) (r : Int), r + n = I 214 (6 * s + t) → 0 ≤ r → VW m_Model_find false (rmv 1 23) (ex K P J I (.inl (some (vI (fs (fun r => I 215 (4 * (64 * (6 * s + t) + r)) = key) r n))))) K P J I 0 0 3 [(0, vR (some 100)), (1, vI s), (2, vI t), (3, vI key), (4, vI r)] [] := by
    intro n
    induction n with
    | zero =>
      intro r hk hq
      refine VW.iload (pc' := 5) d_Model_find_3 rfl rfl ?_
      refine VW.aload_n (pc' := 6) d_Model_find_5 rfl rfl ?_
      refine VW.gP (ci := 11) (T := T11) (N := 94) (k := 14) (k' := 14) (pc' := 9) d_Model_find_6 rfl lk_Model_46 in11 rfl rfl rfl rfl (hM.k rfl) (hM.p (r := some 214) 14 rfl rfl) ?_
      refine VW.bipush (pc' := 11) d_Model_find_9 rfl (by decide) ?_
      refine VW.iload_n (pc' := 12) d_Model_find_11 rfl rfl ?_
      refine VW.imul (pc' := 13) d_Model_find_12 rfl (by omega) ?_
      refine VW.iload_n (pc' := 14) d_Model_find_13 rfl rfl ?_
      refine VW.iadd (pc' := 15) d_Model_find_14 rfl (by omega) ?_
      refine VW.ild (pc' := 16) d_Model_find_15 rfl (hM.k rfl) (by omega) (by omega) (by first | assumption | (simp [up2] <;> rfl) | rfl) ?_
      refine VW.icmp_ge (tgt := 45) (pc' := 19) d_Model_find_16 rfl rfl (fun c16 => ?_) (fun c16 => ?_)
      · refine VW.iconst (pc' := 46) d_Model_find_45 rfl (by decide) ?_
        exact VW.iret d_Model_find_46 rfl rfl (Nat.zero_le _) (Nat.zero_le _) ex_rf
      · exfalso; omega
    | succ n ih =>
      intro r hk hq
      refine VW.iload (pc' := 5) d_Model_find_3 rfl rfl ?_
      refine VW.aload_n (pc' := 6) d_Model_find_5 rfl rfl ?_
      refine VW.gP (ci := 11) (T := T11) (N := 94) (k := 14) (k' := 14) (pc' := 9) d_Model_find_6 rfl lk_Model_46 in11 rfl rfl rfl rfl (hM.k rfl) (hM.p (r := some 214) 14 rfl rfl) ?_
      refine VW.bipush (pc' := 11) d_Model_find_9 rfl (by decide) ?_
      refine VW.iload_n (pc' := 12) d_Model_find_11 rfl rfl ?_
      refine VW.imul (pc' := 13) d_Model_find_12 rfl (by omega) ?_
      refine VW.iload_n (pc' := 14) d_Model_find_13 rfl rfl ?_
      refine VW.iadd (pc' := 15) d_Model_find_14 rfl (by omega) ?_
      refine VW.ild (pc' := 16) d_Model_find_15 rfl (hM.k rfl) (by omega) (by omega) (by first | assumption | (simp [up2] <;> rfl) | rfl) ?_
      refine VW.icmp_ge (tgt := 45) (pc' := 19) d_Model_find_16 rfl rfl (fun c16 => ?_) (fun c16 => ?_)
      · exfalso; omega
      · refine VW.aload_n (pc' := 20) d_Model_find_19 rfl rfl ?_
        refine VW.gP (ci := 11) (T := T11) (N := 94) (k := 15) (k' := 15) (pc' := 23) d_Model_find_20 rfl lk_Model_49 in11 rfl rfl rfl rfl (hM.k rfl) (hM.p (r := some 215) 15 rfl rfl) ?_
        refine VW.iload_n (pc' := 24) d_Model_find_23 rfl rfl ?_
        refine VW.iload_n (pc' := 25) d_Model_find_24 rfl rfl ?_
        refine VW.iload (pc' := 27) d_Model_find_25 rfl rfl ?_
        refine VW.iconst (pc' := 28) d_Model_find_27 rfl (by decide) ?_
        refine VW.cS (pc' := 31) d_Model_find_28 rfl ms_Model_cell lk_Model_273 rfl rfl rfl (Nat.le_refl _) (Nat.le_refl _) (sp_Model_cell (by omega) (by omega) (by omega) (by omega)) rfl rfl ?_
        refine VW.ild (pc' := 32) d_Model_find_31 rfl (hM.k rfl) (by omega) (by omega) (by first | assumption | (simp [up2] <;> rfl) | rfl) ?_
        refine VW.iload_n (pc' := 33) d_Model_find_32 rfl rfl ?_
        refine VW.icmp_ne (tgt := 39) (pc' := 36) d_Model_find_33 rfl rfl (fun c33 => ?_) (fun c33 => ?_)
        · refine VW.nrm ?_
          rw [fs_no (g := fun r => I 215 (4 * (64 * (6 * s + t) + r)) = key) c33]
          refine VW.iinc (pc' := 42) d_Model_find_39 rfl rfl rfl (by omega) ?_
          refine VW.goto (pc' := 3) d_Model_find_42 rfl ?_
          refine VW.nrm ?_
          exact ih (r + 1) (by omega) (by omega)
        · refine VW.nrm ?_
          rw [fs_yes (g := fun r => I 215 (4 * (64 * (6 * s + t) + r)) = key) c33]
          refine VW.iload (pc' := 38) d_Model_find_36 rfl rfl ?_
          exact VW.iret d_Model_find_38 rfl rfl (Nat.zero_le _) (Nat.zero_le _) ex_rf
  refine VW.iconst (pc' := 1) d_Model_find_0 rfl (by decide) ?_
  refine VW.istore (pc' := 3) d_Model_find_1 rfl rfl ?_
  refine VW.nrm ?_
  exact loop (I 214 (6 * s + t)).toNat 0 (by omega) (by omega)
theorem cpyI_0 {I : IT} {b a : Nat} {sp dp : Int} : cpyI I b sp a dp 0 = I := by
  funext o k
  exact if_neg (by omega)
theorem cpyI_step {I : IT} {a : Nat} {A B c : Int} (h0 : 0 ≤ c) (h4 : c < 4) (hA : ∃ q, A = 4 * q) (hB : ∃ q, B = 4 * q) : up2 (cpyI I a A a B c) a (B + c) (cpyI I a A a B c a (A + c)) = cpyI I a A a B (c + 1) := by
  obtain ⟨qa, rfl⟩ := hA
  obtain ⟨qb, rfl⟩ := hB
  have e : cpyI I a (4 * qa) a (4 * qb) c a (4 * qa + c) = I a (4 * qa + c) := by
    unfold cpyI
    by_cases h : a = a ∧ 4 * qb ≤ 4 * qa + c ∧ 4 * qa + c < 4 * qb + c
    · exfalso; omega
    · rw [if_neg h]
  rw [e]
  funext o k
  unfold up2 cpyI
  by_cases h1 : o = a ∧ k = 4 * qb + c
  · rw [if_pos h1, if_pos ⟨h1.1, by omega, by omega⟩, h1.2]
    congr 1
    omega
  · rw [if_neg h1]
    by_cases h2 : o = a ∧ 4 * qb ≤ k ∧ k < 4 * qb + c
    · rw [if_pos h2, if_pos ⟨h2.1, h2.2.1, by omega⟩]
    · rw [if_neg h2, if_neg (fun q => h2 ⟨q.1, q.2.1, by have : ¬ k = 4 * qb + c := fun e => h1 ⟨q.1, e⟩; omega⟩)]
/-- where a row of a state of the reference begins -/
abbrev mrow (s t r : Int) : Int := 4 * (64 * (6 * s + t) + r)
theorem sp_Model_copiesRow {a ra b rb t : Int} (hM : MW K P) (hs : 0 ≤ a ∧ a ≤ 4) (hs2 : 0 ≤ b ∧ b ≤ 4) (ht : 0 ≤ t ∧ t < 6) (hra : 0 ≤ ra ∧ ra < 64) (hrb : 0 ≤ rb ∧ rb < 64) : Sp m_Model_copiesRow false (rmv 1 23) (ex K P J (cpyI I 215 (mrow a t ra) 215 (mrow b t rb) 4) (.inl none)) K P J I [vR (some 100), vI a, vI ra, vI b, vI rb, vI t] := by
  refine Sp.ofV (by decide) (Or.inr rfl) rfl ?_
  have loop : ∀ (n : Nat) (c : Int), c + n = 4 → 0 ≤ c → VW m_Model_copiesRow false (rmv 1 23) (ex K P J (cpyI I 215 (mrow a t ra) 215 (mrow b t rb) 4) (.inl none)) K P J (cpyI I 215 (mrow a t ra) 215 (mrow b t rb) c) 0 0 3 [(0, vR (some 100)), (1, vI a), (2, vI ra), (3, vI b), (4, vI rb), (5, vI t), (6, vI c)] [] := by
    intro n
    induction n with
    | zero =>
      intro c hk hq
      refine VW.iload (pc' := 5) d_Model_copiesRow_3 rfl rfl ?_
      refine VW.iconst (pc' := 6) d_Model_copiesRow_5 rfl (by decide) ?_
      refine VW.icmp_ge (tgt := 44) (pc' := 9) d_Model_copiesRow_6 rfl rfl (fun c6 => ?_) (fun c6 => ?_)
      · exact VW.vret d_Model_copiesRow_44 rfl (Nat.zero_le _) (Nat.zero_le _) (by rw [show c = 4 by omega]; exact ex_rf)
      · exfalso; omega
    | succ n ih =>
      intro c hk hq
      refine VW.iload (pc' := 5) d_Model_copiesRow_3 rfl rfl ?_
      refine VW.iconst (pc' := 6) d_Model_copiesRow_5 rfl (by decide) ?_
      refine VW.icmp_ge (tgt := 44) (pc' := 9) d_Model_copiesRow_6 rfl rfl (fun c6 => ?_) (fun c6 => ?_)
      · exfalso; omega
      · refine VW.aload_n (pc' := 10) d_Model_copiesRow_9 rfl rfl ?_
        refine VW.gP (ci := 11) (T := T11) (N := 94) (k := 15) (k' := 15) (pc' := 13) d_Model_copiesRow_10 rfl lk_Model_49 in11 rfl rfl rfl rfl (hM.k rfl) (hM.p (r := some 215) 15 rfl rfl) ?_
        refine VW.iload_n (pc' := 14) d_Model_copiesRow_13 rfl rfl ?_
        refine VW.iload (pc' := 16) d_Model_copiesRow_14 rfl rfl ?_
        refine VW.iload (pc' := 18) d_Model_copiesRow_16 rfl rfl ?_
        refine VW.iload (pc' := 20) d_Model_copiesRow_18 rfl rfl ?_
        refine VW.cS (pc' := 23) d_Model_copiesRow_20 rfl ms_Model_cell lk_Model_273 rfl rfl rfl (Nat.le_refl _) (Nat.le_refl _) (sp_Model_cell (by omega) (by omega) (by omega) (by omega)) rfl rfl ?_
        refine VW.aload_n (pc' := 24) d_Model_copiesRow_23 rfl rfl ?_
        refine VW.gP (ci := 11) (T := T11) (N := 94) (k := 15) (k' := 15) (pc' := 27) d_Model_copiesRow_24 rfl lk_Model_49 in11 rfl rfl rfl rfl (hM.k rfl) (hM.p (r := some 215) 15 rfl rfl) ?_
        refine VW.iload_n (pc' := 28) d_Model_copiesRow_27 rfl rfl ?_
        refine VW.iload (pc' := 30) d_Model_copiesRow_28 rfl rfl ?_
        refine VW.iload_n (pc' := 31) d_Model_copiesRow_30 rfl rfl ?_
        refine VW.iload (pc' := 33) d_Model_copiesRow_31 rfl rfl ?_
        refine VW.cS (pc' := 36) d_Model_copiesRow_33 rfl ms_Model_cell lk_Model_273 rfl rfl rfl (Nat.le_refl _) (Nat.le_refl _) (sp_Model_cell (by omega) (by omega) (by omega) (by omega)) rfl rfl ?_
        refine VW.ild (pc' := 37) d_Model_copiesRow_36 rfl (hM.k rfl) (by omega) (by omega) (by first | assumption | (simp [up2] <;> rfl) | rfl) ?_
        refine VW.iast (pc' := 38) d_Model_copiesRow_37 rfl (hM.k rfl) (by omega) (by omega) ?_
        refine VW.nrm ?_
        rw [cpyI_step hq (by omega) ⟨_, rfl⟩ ⟨_, rfl⟩]
        refine VW.iinc (pc' := 41) d_Model_copiesRow_38 rfl rfl rfl (by omega) ?_
        refine VW.goto (pc' := 3) d_Model_copiesRow_41 rfl ?_
        refine VW.nrm ?_
        exact ih (c + 1) (by omega) (by omega)
  refine VW.iconst (pc' := 1) d_Model_copiesRow_0 rfl (by decide) ?_
  refine VW.istore (pc' := 3) d_Model_copiesRow_1 rfl rfl ?_
  refine VW.nrm ?_
  have h := loop 4 0 (by omega) (by omega)
  rw [cpyI_0] at h
  exact h
theorem sp_Model_takesOut {s t r : Int} (hM : MW K P) (hs : 0 ≤ s ∧ s ≤ 4) (ht : 0 ≤ t ∧ t < 6) (hr : 0 ≤ r ∧ r < I 214 (6 * s + t) ∧ I 214 (6 * s + t) ≤ 64) : Sp m_Model_takesOut false (rmv 2 49) (ex K P J (cpyI (up2 I 214 (6 * s + t) (I 214 (6 * s + t) - 1)) 215 (mrow s t (I 214 (6 * s + t) - 1)) 215 (mrow s t r) 4) (.inl none)) K P J I [vR (some 100), vI s, vI t, vI r] := by
  refine Sp.ofV (by decide) (Or.inr rfl) rfl ?_
  refine VW.aload_n (pc' := 1) d_Model_takesOut_0 rfl rfl ?_
  refine VW.gP (ci := 11) (T := T11) (N := 94) (k := 14) (k' := 14) (pc' := 4) d_Model_takesOut_1 rfl lk_Model_46 in11 rfl rfl rfl rfl (hM.k rfl) (hM.p (r := some 214) 14 rfl rfl) ?_
  refine VW.bipush (pc' := 6) d_Model_takesOut_4 rfl (by decide) ?_
  refine VW.iload_n (pc' := 7) d_Model_takesOut_6 rfl rfl ?_
  refine VW.imul (pc' := 8) d_Model_takesOut_7 rfl (by omega) ?_
  refine VW.iload_n (pc' := 9) d_Model_takesOut_8 rfl rfl ?_
  refine VW.iadd (pc' := 10) d_Model_takesOut_9 rfl (by omega) ?_
  refine VW.dup2 (pc' := 11) d_Model_takesOut_10 rfl rfl rfl ?_
  refine VW.ild (pc' := 12) d_Model_takesOut_11 rfl (hM.k rfl) (by omega) (by omega) (by first | assumption | (simp [up2] <;> rfl) | rfl) ?_
  refine VW.iconst (pc' := 13) d_Model_takesOut_12 rfl (by decide) ?_
  refine VW.isub (pc' := 14) d_Model_takesOut_13 rfl (by omega) ?_
  refine VW.iast (pc' := 15) d_Model_takesOut_14 rfl (hM.k rfl) (by omega) (by omega) ?_
  refine VW.aload_n (pc' := 16) d_Model_takesOut_15 rfl rfl ?_
  refine VW.iload_n (pc' := 17) d_Model_takesOut_16 rfl rfl ?_
  refine VW.aload_n (pc' := 18) d_Model_takesOut_17 rfl rfl ?_
  refine VW.gP (ci := 11) (T := T11) (N := 94) (k := 14) (k' := 14) (pc' := 21) d_Model_takesOut_18 rfl lk_Model_46 in11 rfl rfl rfl rfl (hM.k rfl) (hM.p (r := some 214) 14 rfl rfl) ?_
  refine VW.bipush (pc' := 23) d_Model_takesOut_21 rfl (by decide) ?_
  refine VW.iload_n (pc' := 24) d_Model_takesOut_23 rfl rfl ?_
  refine VW.imul (pc' := 25) d_Model_takesOut_24 rfl (by omega) ?_
  refine VW.iload_n (pc' := 26) d_Model_takesOut_25 rfl rfl ?_
  refine VW.iadd (pc' := 27) d_Model_takesOut_26 rfl (by omega) ?_
  refine VW.ild (pc' := 28) d_Model_takesOut_27 rfl (hM.k rfl) (by omega) (by omega) (up2_eq _ _ _ _) ?_
  refine VW.iload_n (pc' := 29) d_Model_takesOut_28 rfl rfl ?_
  refine VW.iload_n (pc' := 30) d_Model_takesOut_29 rfl rfl ?_
  refine VW.iload_n (pc' := 31) d_Model_takesOut_30 rfl rfl ?_
  refine VW.cV (ci := 11) (T := T11) (N := 94) (pc' := 34) d_Model_takesOut_31 rfl mv_Model_copiesRow lk_Model_277 rfl (hM.k rfl) rfl rfl rfl (Nat.le_refl _) (Nat.le_refl _) (sp_Model_copiesRow hM (by omega) (by omega) (by omega) (by omega) (by omega)) rfl rfl ?_
  exact VW.vret d_Model_takesOut_34 rfl (Nat.zero_le _) (Nat.zero_le _) ex_rf
def mnotes (I : IT) (as its t key : Int) : IT := up2 (up2 (up2 (up2 (up2 I 246 (I 100 44) as) 247 (I 100 44) its) 248 (I 100 44) t) 249 (I 100 44) key) 100 44 (I 100 44 + 1)
theorem sp_Model_notes {as its t key : Int} (hM : MW K P) (h0 : 0 ≤ I 100 44) (h1 : I 100 44 < 16384) : Sp m_Model_notes false (rmv 0 0) (ex K P J (mnotes I as its t key) (.inl none)) K P J I [vR (some 100), vI as, vI its, vI t, vI key] := by
  refine Sp.ofV (by decide) (Or.inr rfl) rfl ?_
  refine VW.aload_n (pc' := 1) d_Model_notes_0 rfl rfl ?_
  refine VW.gP (ci := 11) (T := T11) (N := 94) (k := 46) (k' := 46) (pc' := 4) d_Model_notes_1 rfl lk_Model_126 in11 rfl rfl rfl rfl (hM.k rfl) (hM.p (r := some 246) 46 rfl rfl) ?_
  refine VW.aload_n (pc' := 5) d_Model_notes_4 rfl rfl ?_
  refine VW.gI (ci := 11) (T := T11) (N := 94) (k := 44) (k' := 44) (pc' := 8) d_Model_notes_5 rfl lk_Model_294 in11 rfl rfl rfl rfl (hM.k rfl) (by first | assumption | (simp [up2] <;> rfl) | rfl) ?_
  refine VW.iload_n (pc' := 9) d_Model_notes_8 rfl rfl ?_
  refine VW.iast (pc' := 10) d_Model_notes_9 rfl (hM.k rfl) (by omega) (by omega) ?_
  refine VW.aload_n (pc' := 11) d_Model_notes_10 rfl rfl ?_
  refine VW.gP (ci := 11) (T := T11) (N := 94) (k := 47) (k' := 47) (pc' := 14) d_Model_notes_11 rfl lk_Model_129 in11 rfl rfl rfl rfl (hM.k rfl) (hM.p (r := some 247) 47 rfl rfl) ?_
  refine VW.aload_n (pc' := 15) d_Model_notes_14 rfl rfl ?_
  refine VW.gI (ci := 11) (T := T11) (N := 94) (k := 44) (k' := 44) (pc' := 18) d_Model_notes_15 rfl lk_Model_294 in11 rfl rfl rfl rfl (hM.k rfl) (by first | assumption | (simp [up2] <;> rfl) | rfl) ?_
  refine VW.iload_n (pc' := 19) d_Model_notes_18 rfl rfl ?_
  refine VW.iast (pc' := 20) d_Model_notes_19 rfl (hM.k rfl) (by omega) (by omega) ?_
  refine VW.aload_n (pc' := 21) d_Model_notes_20 rfl rfl ?_
  refine VW.gP (ci := 11) (T := T11) (N := 94) (k := 48) (k' := 48) (pc' := 24) d_Model_notes_21 rfl lk_Model_132 in11 rfl rfl rfl rfl (hM.k rfl) (hM.p (r := some 248) 48 rfl rfl) ?_
  refine VW.aload_n (pc' := 25) d_Model_notes_24 rfl rfl ?_
  refine VW.gI (ci := 11) (T := T11) (N := 94) (k := 44) (k' := 44) (pc' := 28) d_Model_notes_25 rfl lk_Model_294 in11 rfl rfl rfl rfl (hM.k rfl) (by first | assumption | (simp [up2] <;> rfl) | rfl) ?_
  refine VW.iload_n (pc' := 29) d_Model_notes_28 rfl rfl ?_
  refine VW.iast (pc' := 30) d_Model_notes_29 rfl (hM.k rfl) (by omega) (by omega) ?_
  refine VW.aload_n (pc' := 31) d_Model_notes_30 rfl rfl ?_
  refine VW.gP (ci := 11) (T := T11) (N := 94) (k := 49) (k' := 49) (pc' := 34) d_Model_notes_31 rfl lk_Model_135 in11 rfl rfl rfl rfl (hM.k rfl) (hM.p (r := some 249) 49 rfl rfl) ?_
  refine VW.aload_n (pc' := 35) d_Model_notes_34 rfl rfl ?_
  refine VW.gI (ci := 11) (T := T11) (N := 94) (k := 44) (k' := 44) (pc' := 38) d_Model_notes_35 rfl lk_Model_294 in11 rfl rfl rfl rfl (hM.k rfl) (by first | assumption | (simp [up2] <;> rfl) | rfl) ?_
  refine VW.iload (pc' := 40) d_Model_notes_38 rfl rfl ?_
  refine VW.iast (pc' := 41) d_Model_notes_40 rfl (hM.k rfl) (by omega) (by omega) ?_
  refine VW.aload_n (pc' := 42) d_Model_notes_41 rfl rfl ?_
  refine VW.dup (pc' := 43) d_Model_notes_42 rfl rfl ?_
  refine VW.gI (ci := 11) (T := T11) (N := 94) (k := 44) (k' := 44) (pc' := 46) d_Model_notes_43 rfl lk_Model_294 in11 rfl rfl rfl rfl (hM.k rfl) (by first | assumption | (simp [up2] <;> rfl) | rfl) ?_
  refine VW.iconst (pc' := 47) d_Model_notes_46 rfl (by decide) ?_
  refine VW.iadd (pc' := 48) d_Model_notes_47 rfl (by omega) ?_
  refine VW.pI (ci := 11) (T := T11) (N := 94) (k := 44) (k' := 44) (ty := ty11) (pc' := 51) d_Model_notes_48 rfl lk_Model_294 in11 tk11 nm11 rfl rfl rfl rfl rfl rfl (hM.k rfl) ?_
  exact VW.vret d_Model_notes_51 rfl (Nat.zero_le _) (Nat.zero_le _) ex_rf
def mends (I : IT) (i as : Int) : IT := up2 (up2 (up2 I 221 i as) 225 i (-1)) 226 (I 223 i) 0
theorem sp_Model_ends {i as : Int} (hM : MW K P) (h0 : 0 ≤ i ∧ i < 60) (h1 : 0 ≤ I 223 i ∧ I 223 i < 4) : Sp m_Model_ends false (rmv 0 0) (ex K P J (mends I i as) (.inl none)) K P J I [vR (some 100), vI i, vI as] := by
  refine Sp.ofV (by decide) (Or.inr rfl) rfl ?_
  refine VW.aload_n (pc' := 1) d_Model_ends_0 rfl rfl ?_
  refine VW.gP (ci := 11) (T := T11) (N := 94) (k := 21) (k' := 21) (pc' := 4) d_Model_ends_1 rfl lk_Model_61 in11 rfl rfl rfl rfl (hM.k rfl) (hM.p (r := some 221) 21 rfl rfl) ?_
  refine VW.iload_n (pc' := 5) d_Model_ends_4 rfl rfl ?_
  refine VW.iload_n (pc' := 6) d_Model_ends_5 rfl rfl ?_
  refine VW.iast (pc' := 7) d_Model_ends_6 rfl (hM.k rfl) (by omega) (by omega) ?_
  refine VW.aload_n (pc' := 8) d_Model_ends_7 rfl rfl ?_
  refine VW.gP (ci := 11) (T := T11) (N := 94) (k := 25) (k' := 25) (pc' := 11) d_Model_ends_8 rfl lk_Model_73 in11 rfl rfl rfl rfl (hM.k rfl) (hM.p (r := some 225) 25 rfl rfl) ?_
  refine VW.iload_n (pc' := 12) d_Model_ends_11 rfl rfl ?_
  refine VW.iconst (pc' := 13) d_Model_ends_12 rfl (by decide) ?_
  refine VW.iast (pc' := 14) d_Model_ends_13 rfl (hM.k rfl) (by omega) (by omega) ?_
  refine VW.aload_n (pc' := 15) d_Model_ends_14 rfl rfl ?_
  refine VW.gP (ci := 11) (T := T11) (N := 94) (k := 26) (k' := 26) (pc' := 18) d_Model_ends_15 rfl lk_Model_76 in11 rfl rfl rfl rfl (hM.k rfl) (hM.p (r := some 226) 26 rfl rfl) ?_
  refine VW.aload_n (pc' := 19) d_Model_ends_18 rfl rfl ?_
  refine VW.gP (ci := 11) (T := T11) (N := 94) (k := 23) (k' := 23) (pc' := 22) d_Model_ends_19 rfl lk_Model_67 in11 rfl rfl rfl rfl (hM.k rfl) (hM.p (r := some 223) 23 rfl rfl) ?_
  refine VW.iload_n (pc' := 23) d_Model_ends_22 rfl rfl ?_
  refine VW.ild (pc' := 24) d_Model_ends_23 rfl (hM.k rfl) (by omega) (by omega) (by first | assumption | (simp [up2] <;> rfl) | rfl) ?_
  refine VW.iconst (pc' := 25) d_Model_ends_24 rfl (by decide) ?_
  refine VW.zast (pc' := 26) d_Model_ends_25 rfl (hM.k rfl) (by omega) (by omega) (by omega) ?_
  exact VW.vret d_Model_ends_26 rfl (Nat.zero_le _) (Nat.zero_le _) ex_rf
def mwants (I : IT) (t key : Int) : IT := up2 (up2 (up2 I 242 (I 100 41) t) 243 (I 100 41) key) 100 41 (I 100 41 + 1)
theorem sp_Model_wants {t key : Int} (hM : MW K P) (h0 : 0 ≤ I 100 41 ∧ I 100 41 < 384) : Sp m_Model_wants false (rmv 0 0) (ex K P J (mwants I t key) (.inl none)) K P J I [vR (some 100), vI t, vI key] := by
  refine Sp.ofV (by decide) (Or.inr rfl) rfl ?_
  refine VW.aload_n (pc' := 1) d_Model_wants_0 rfl rfl ?_
  refine VW.gP (ci := 11) (T := T11) (N := 94) (k := 42) (k' := 42) (pc' := 4) d_Model_wants_1 rfl lk_Model_120 in11 rfl rfl rfl rfl (hM.k rfl) (hM.p (r := some 242) 42 rfl rfl) ?_
  refine VW.aload_n (pc' := 5) d_Model_wants_4 rfl rfl ?_
  refine VW.gI (ci := 11) (T := T11) (N := 94) (k := 41) (k' := 41) (pc' := 8) d_Model_wants_5 rfl lk_Model_312 in11 rfl rfl rfl rfl (hM.k rfl) (by first | assumption | (simp [up2] <;> rfl) | rfl) ?_
  refine VW.iload_n (pc' := 9) d_Model_wants_8 rfl rfl ?_
  refine VW.iast (pc' := 10) d_Model_wants_9 rfl (hM.k rfl) (by omega) (by omega) ?_
  refine VW.aload_n (pc' := 11) d_Model_wants_10 rfl rfl ?_
  refine VW.gP (ci := 11) (T := T11) (N := 94) (k := 43) (k' := 43) (pc' := 14) d_Model_wants_11 rfl lk_Model_123 in11 rfl rfl rfl rfl (hM.k rfl) (hM.p (r := some 243) 43 rfl rfl) ?_
  refine VW.aload_n (pc' := 15) d_Model_wants_14 rfl rfl ?_
  refine VW.gI (ci := 11) (T := T11) (N := 94) (k := 41) (k' := 41) (pc' := 18) d_Model_wants_15 rfl lk_Model_312 in11 rfl rfl rfl rfl (hM.k rfl) (by first | assumption | (simp [up2] <;> rfl) | rfl) ?_
  refine VW.iload_n (pc' := 19) d_Model_wants_18 rfl rfl ?_
  refine VW.iast (pc' := 20) d_Model_wants_19 rfl (hM.k rfl) (by omega) (by omega) ?_
  refine VW.aload_n (pc' := 21) d_Model_wants_20 rfl rfl ?_
  refine VW.dup (pc' := 22) d_Model_wants_21 rfl rfl ?_
  refine VW.gI (ci := 11) (T := T11) (N := 94) (k := 41) (k' := 41) (pc' := 25) d_Model_wants_22 rfl lk_Model_312 in11 rfl rfl rfl rfl (hM.k rfl) (by first | assumption | (simp [up2] <;> rfl) | rfl) ?_
  refine VW.iconst (pc' := 26) d_Model_wants_25 rfl (by decide) ?_
  refine VW.iadd (pc' := 27) d_Model_wants_26 rfl (by omega) ?_
  refine VW.pI (ci := 11) (T := T11) (N := 94) (k := 41) (k' := 41) (ty := ty11) (pc' := 30) d_Model_wants_27 rfl lk_Model_312 in11 tk11 nm11 rfl rfl rfl rfl rfl rfl (hM.k rfl) ?_
  exact VW.vret d_Model_wants_30 rfl (Nat.zero_le _) (Nat.zero_le _) ex_rf
end
