/-! run: what it reads; where the reference doesn't run -/
section
variable {K : KT} {P : PT} {J I S T U A B : IT} {i q x : Int} {c n : Nat}
theorem sp_Model_runN (hM : MW K P) (hb : MB I) (hq : 0 ≤ I 100 61 ∧ I 100 61 ≤ 20) (hno : ¬ ((0 ≤ i ∧ i < I 100 19) ∧ (0 ≤ q ∧ q < I 100 61) ∧ I 221 i = 0)) : Sp m_Model_run false (rmv 4 99) (exV K P J (RunP I i q 0 0 [])) K P J I [vR (some 100), vI i, vI q] := by
  refine Sp.ofV (by decide) (Or.inr rfl) rfl ?_
  have b0 := hb.trn
  have r1 : ¬ ((0 ≤ i ∧ i < I 100 19) ∧ (0 ≤ q ∧ q < I 100 61)) → RunP I i q 0 0 [] 0 (up2 I 100 93 1) := fun z => Or.inl ⟨z, rfl, rfl⟩
  have r2 : (0 ≤ i ∧ i < I 100 19) → (0 ≤ q ∧ q < I 100 61) → I 221 i ≠ 0 → RunP I i q 0 0 [] 0 (up2 I 100 93 2) := fun z1 z2 z3 => Or.inr (Or.inl ⟨⟨z1, z2⟩, z3, rfl, rfl⟩)
  refine VW.aload_n (pc' := 1) d_Model_run_0 rfl rfl ?_
  refine VW.iload_n (pc' := 2) d_Model_run_1 rfl rfl ?_
  refine VW.cV (ci := 11) (T := T11) (N := 94) (pc' := 5) d_Model_run_2 rfl mv_Model_isTransaction lk_Model_376 rfl (hM.k rfl) rfl rfl rfl (Nat.le_refl _) (Nat.le_refl _) (sp_Model_isTransaction hM hb.trn.1) rfl rfl ?_
  refine VW.if_eq (tgt := 20) (pc' := 8) d_Model_run_5 rfl rfl (fun c5 => ?_) (fun c5 => ?_)
  · try have e5 := bIe c5
    refine VW.iconst (pc' := 21) d_Model_run_20 rfl (by decide) ?_
    refine VW.istore_n (pc' := 22) d_Model_run_21 rfl rfl ?_
    refine VW.iload_n (pc' := 23) d_Model_run_22 rfl rfl ?_
    refine VW.if_eq (tgt := 39) (pc' := 26) d_Model_run_23 rfl rfl (fun _ => ?_) (fun c23 => absurd c23 (by decide))
    refine VW.iconst (pc' := 40) d_Model_run_39 rfl (by decide) ?_
    refine VW.istore (pc' := 42) d_Model_run_40 rfl rfl ?_
    refine VW.iload (pc' := 44) d_Model_run_42 rfl rfl ?_
    refine VW.if_eq (tgt := 64) (pc' := 47) d_Model_run_44 rfl rfl (fun _ => ?_) (fun c44 => absurd c44 (by decide))
    refine VW.aload_n (pc' := 65) d_Model_run_64 rfl rfl ?_
    refine VW.iload_n (pc' := 66) d_Model_run_65 rfl rfl ?_
    refine VW.if_ne (tgt := 73) (pc' := 69) d_Model_run_66 rfl rfl (fun c66 => absurd c66 (by decide)) (fun _ => ?_)
    refine VW.iconst (pc' := 70) d_Model_run_69 rfl (by decide) ?_
    refine VW.goto (pc' := 94) d_Model_run_70 rfl ?_
    refine VW.cV (ci := 11) (T := T11) (N := 94) (pc' := 97) d_Model_run_94 rfl mv_Model_fails lk_Model_254 rfl (hM.k rfl) rfl rfl rfl (Nat.le_refl _) (Nat.le_refl _) (sp_Model_fails hM) rfl rfl ?_
    refine VW.if_eq (tgt := 102) (pc' := 100) d_Model_run_97 rfl rfl (fun c97 => ?_) (fun c97 => ?_)
    · try have e97 := bIe c97
      refine VW.nrm ?_
      exfalso; omega
    · try have e97 := bIn c97
      refine VW.iconst (pc' := 101) d_Model_run_100 rfl (by decide) ?_
      exact VW.iret d_Model_run_101 rfl rfl (Nat.zero_le _) (Nat.zero_le _) (by first | (exfalso; omega) | exact exV_mk (r1 (fun z => e5 z.1)) | exact exV_mk (r1 (fun z => e13 z.2)) | exact exV_mk (r2 e5 e13 c32))
  · try have e5 := bIn c5
    refine VW.aload_n (pc' := 9) d_Model_run_8 rfl rfl ?_
    refine VW.iload_n (pc' := 10) d_Model_run_9 rfl rfl ?_
    refine VW.cV (ci := 11) (T := T11) (N := 94) (pc' := 13) d_Model_run_10 rfl mv_Model_isQuery lk_Model_486 rfl (hM.k rfl) rfl rfl rfl (Nat.le_refl _) (Nat.le_refl _) (sp_Model_isQuery hM hq.1) rfl rfl ?_
    refine VW.if_eq (tgt := 20) (pc' := 16) d_Model_run_13 rfl rfl (fun c13 => ?_) (fun c13 => ?_)
    · try have e13 := bIe c13
      refine VW.iconst (pc' := 21) d_Model_run_20 rfl (by decide) ?_
      refine VW.istore_n (pc' := 22) d_Model_run_21 rfl rfl ?_
      refine VW.iload_n (pc' := 23) d_Model_run_22 rfl rfl ?_
      refine VW.if_eq (tgt := 39) (pc' := 26) d_Model_run_23 rfl rfl (fun _ => ?_) (fun c23 => absurd c23 (by decide))
      refine VW.iconst (pc' := 40) d_Model_run_39 rfl (by decide) ?_
      refine VW.istore (pc' := 42) d_Model_run_40 rfl rfl ?_
      refine VW.iload (pc' := 44) d_Model_run_42 rfl rfl ?_
      refine VW.if_eq (tgt := 64) (pc' := 47) d_Model_run_44 rfl rfl (fun _ => ?_) (fun c44 => absurd c44 (by decide))
      refine VW.aload_n (pc' := 65) d_Model_run_64 rfl rfl ?_
      refine VW.iload_n (pc' := 66) d_Model_run_65 rfl rfl ?_
      refine VW.if_ne (tgt := 73) (pc' := 69) d_Model_run_66 rfl rfl (fun c66 => absurd c66 (by decide)) (fun _ => ?_)
      refine VW.iconst (pc' := 70) d_Model_run_69 rfl (by decide) ?_
      refine VW.goto (pc' := 94) d_Model_run_70 rfl ?_
      refine VW.cV (ci := 11) (T := T11) (N := 94) (pc' := 97) d_Model_run_94 rfl mv_Model_fails lk_Model_254 rfl (hM.k rfl) rfl rfl rfl (Nat.le_refl _) (Nat.le_refl _) (sp_Model_fails hM) rfl rfl ?_
      refine VW.if_eq (tgt := 102) (pc' := 100) d_Model_run_97 rfl rfl (fun c97 => ?_) (fun c97 => ?_)
      · try have e97 := bIe c97
        refine VW.nrm ?_
        exfalso; omega
      · try have e97 := bIn c97
        refine VW.iconst (pc' := 101) d_Model_run_100 rfl (by decide) ?_
        exact VW.iret d_Model_run_101 rfl rfl (Nat.zero_le _) (Nat.zero_le _) (by first | (exfalso; omega) | exact exV_mk (r1 (fun z => e5 z.1)) | exact exV_mk (r1 (fun z => e13 z.2)) | exact exV_mk (r2 e5 e13 c32))
    · try have e13 := bIn c13
      refine VW.iconst (pc' := 17) d_Model_run_16 rfl (by decide) ?_
      refine VW.goto (pc' := 21) d_Model_run_17 rfl ?_
      refine VW.istore_n (pc' := 22) d_Model_run_21 rfl rfl ?_
      refine VW.iload_n (pc' := 23) d_Model_run_22 rfl rfl ?_
      refine VW.if_eq (tgt := 39) (pc' := 26) d_Model_run_23 rfl rfl (fun c23 => absurd c23 (by decide)) (fun _ => ?_)
      have x5 := bIn c5
      refine VW.aload_n (pc' := 27) d_Model_run_26 rfl rfl ?_
      refine VW.gP (ci := 11) (T := T11) (N := 94) (k := 21) (k' := 21) (pc' := 30) d_Model_run_27 rfl lk_Model_61 in11 rfl rfl rfl rfl (hM.k rfl) (hM.p (r := some 221) 21 rfl rfl) ?_
      refine VW.iload_n (pc' := 31) d_Model_run_30 rfl rfl ?_
      refine VW.ild (pc' := 32) d_Model_run_31 rfl (hM.k rfl) (by omega) (by omega) rfl ?_
      refine VW.if_ne (tgt := 39) (pc' := 35) d_Model_run_32 rfl rfl (fun c32 => ?_) (fun c32 => ?_)
      · try have e32 := bIn c32
        refine VW.iconst (pc' := 40) d_Model_run_39 rfl (by decide) ?_
        refine VW.istore (pc' := 42) d_Model_run_40 rfl rfl ?_
        refine VW.iload (pc' := 44) d_Model_run_42 rfl rfl ?_
        refine VW.if_eq (tgt := 64) (pc' := 47) d_Model_run_44 rfl rfl (fun _ => ?_) (fun c44 => absurd c44 (by decide))
        refine VW.aload_n (pc' := 65) d_Model_run_64 rfl rfl ?_
        refine VW.iload_n (pc' := 66) d_Model_run_65 rfl rfl ?_
        refine VW.if_ne (tgt := 73) (pc' := 69) d_Model_run_66 rfl rfl (fun _ => ?_) (fun c66 => absurd c66 (by decide))
        refine VW.iload (pc' := 75) d_Model_run_73 rfl rfl ?_
        refine VW.if_ne (tgt := 82) (pc' := 78) d_Model_run_75 rfl rfl (fun c75 => absurd c75 (by decide)) (fun _ => ?_)
        refine VW.iconst (pc' := 79) d_Model_run_78 rfl (by decide) ?_
        refine VW.goto (pc' := 94) d_Model_run_79 rfl ?_
        refine VW.cV (ci := 11) (T := T11) (N := 94) (pc' := 97) d_Model_run_94 rfl mv_Model_fails lk_Model_254 rfl (hM.k rfl) rfl rfl rfl (Nat.le_refl _) (Nat.le_refl _) (sp_Model_fails hM) rfl rfl ?_
        refine VW.if_eq (tgt := 102) (pc' := 100) d_Model_run_97 rfl rfl (fun c97 => ?_) (fun c97 => ?_)
        · try have e97 := bIe c97
          refine VW.nrm ?_
          exfalso; omega
        · try have e97 := bIn c97
          refine VW.iconst (pc' := 101) d_Model_run_100 rfl (by decide) ?_
          exact VW.iret d_Model_run_101 rfl rfl (Nat.zero_le _) (Nat.zero_le _) (by first | (exfalso; omega) | exact exV_mk (r1 (fun z => e5 z.1)) | exact exV_mk (r1 (fun z => e13 z.2)) | exact exV_mk (r2 e5 e13 c32))
      · exact absurd ⟨e5, e13, c32⟩ hno
theorem mStop_c (h : ∀ o, 256 ≤ o → o ≤ 260 → A o = B o) {k : Int} {m : Nat} : mStop A k m = mStop B k m := by
  unfold mStop mSkip
  rw [h 256 (by decide) (by decide), h 257 (by decide) (by decide), h 258 (by decide) (by decide), h 260 (by decide) (by decide)]
theorem mReadsKey_c {t key : Int} (h : ∀ o, 233 ≤ o → o ≤ 236 → A o = B o) : ∀ o, 233 ≤ o → o ≤ 236 → mReadsKey A i t key o = mReadsKey B i t key o := fun o o0 o1 => by
  have h3 := h 233 (by decide) (by decide)
  have h4 := h 234 (by decide) (by decide)
  have h5 := h 235 (by decide) (by decide)
  have e : mRead A i t key ↔ mRead B i t key := by
    unfold mRead
    rw [h 236 (by decide) (by decide), h3, h4, h5]
  by_cases y : mRead A i t key
  · rw [mReadsKey_1 y, mReadsKey_1 (e.mp y)]; exact h o o0 o1
  · rw [mReadsKey_0 y, mReadsKey_0 (fun z => y (e.mpr z))]
    refine funext (fun z => ?_)
    unfold up2
    rw [h3, h o o0 o1]
theorem mRa1_c {y : Int} {m : Nat} (h : ∀ o, 233 ≤ o → o ≤ 236 → A o = B o) (h2 : ∀ o, 256 ≤ o → o ≤ 260 → A o = B o) : ∀ o, 233 ≤ o → o ≤ 236 → mRa1 A i y m o = mRa1 B i y m o := fun o o0 o1 => by
  unfold mRa1
  rw [mStop_c h2, h2 256 (by decide) (by decide), h2 257 (by decide) (by decide), h2 259 (by decide) (by decide)]
  split
  · exact mReadsKey_c h o o0 o1
  · refine funext (fun z => ?_)
    unfold up2
    rw [h o o0 o1]
theorem mRa_c {m : Nat} (h : ∀ o, 233 ≤ o → o ≤ 236 → A o = B o) (h2 : ∀ o, 256 ≤ o → o ≤ 260 → A o = B o) : ∀ k : Nat, ∀ o, 233 ≤ o → o ≤ 236 → mRa A i x m k o = mRa B i x m k o
  | 0 => h
  | k + 1 => fun o o0 o1 => by
    have ih := mRa_c (m := m) h h2 k
    have g := h2 256 (by decide) (by decide)
    by_cases y : A 256 (x + k) = 0
    · rw [mRa_yes y, mRa_yes (by rw [← g]; exact y)]
      exact mRa1_c ih (fun o o0 o1 => funext (fun z => by rw [mRa_fr k o z (by omega), mRa_fr k o z (by omega), h2 o o0 o1])) o o0 o1
    · rw [mRa_no y, mRa_no (by rw [← g]; exact y)]
      exact ih o o0 o1
/-- only what i read changes -/
theorem mRa_oth {m : Nat} : ∀ k : Nat, (∀ j : Nat, j < k → S 256 (x + j) = 0 → 0 ≤ S 257 (x + j) ∧ S 257 (x + j) < 6) → (∀ j, j ≠ i → mRa S i x m k 233 j = S 233 j) ∧ ∀ z, (∀ t, 0 ≤ t → t < 6 → z ≠ 6 * i + t) → mRa S i x m k 236 z = S 236 z
  | 0, _ => ⟨fun _ _ => rfl, fun _ _ => rfl⟩
  | k + 1, hA => by
    obtain ⟨a, b⟩ := mRa_oth (m := m) k (fun j hj => hA j (by omega))
    by_cases y : S 256 (x + k) = 0
    · have hk := hA k (by omega) y
      rw [mRa_yes y]
      have e57 : mRa S i x m k 257 (x + k) = S 257 (x + k) := mRa_fr k 257 _ (by decide)
      refine ⟨fun j hj => ?_, fun z hz => ?_⟩
      · rw [← a j hj]
        unfold mRa1
        split
        · exact rk_233 hj
        · exact up2_o _ _ _ _ (by decide)
      · rw [← b z hz]
        unfold mRa1
        split
        · exact mReadsKey_fr 236 z (by decide) (by decide) (by decide)
        · rw [e57]
          exact up2_k _ _ _ _ (hz _ hk.1 hk.2)
    · rw [mRa_no y]
      exact ⟨a, b⟩
/-- a transaction reads: the account -/
theorem ZI.read (h : ZI c (-1) S) (e : ∀ o, (o = 201 ∨ o = 214 ∨ o = 215 ∨ o = 221 ∨ o = 223 ∨ o = 225 ∨ o = 227 ∨ o = 228 ∨ (246 ≤ o ∧ o ≤ 249)) → T o = S o) (e1 : ∀ y, (y = 0 ∨ y = 19 ∨ y = 44 ∨ y = 45) → T 100 y = S 100 y) (e37 : (T 100 37).toNat ≤ (S 100 37).toNat) (hr : RdZ T) : ZI (c + 1) (-1) T := by
  have hS := ZI.same (S' := fun o => if o = 233 ∨ o = 236 then S o else T o) (k' := c + 1) h (fun o ho => by
    by_cases z : o = 233 ∨ o = 236
    · exact if_pos z
    · exact (if_neg z).trans (e o (by omega))) (fun y hy => e1 y hy) (by
      show (T 100 37).toNat + c ≤ (S 100 37).toNat + (c + 1)
      omega)
  obtain ⟨z0, z1, z2, z3, z4, z5, z6⟩ := hS
  have zA := z0.draft (S' := T) (k' := c + 1) (fun o ho => (if_neg (by omega)).symm) rfl rfl (Nat.le_refl _)
  have e46 := e 246 (by omega)
  have e47 := e 247 (by omega)
  have z7 : AbB T := fun r r0 r1 r2 => by
    rw [e1 45 (by omega)] at r0
    rw [e1 44 (by omega)] at r1
    rw [e46] at r2
    have a := h.2.2.2.2.2.1 r r0 r1 r2
    rw [e47, nUn_of (S := S) (fun p _ => by rw [e46, e47]; exact ⟨rfl, rfl⟩), un_same (S := S) _ (fun p _ => by rw [e46, e47]; exact ⟨rfl, rfl⟩)]
    exact a
  exact ⟨zA, z1, z2, hr, z4, z7, z6⟩
end
