section
variable {K : KT} {P : PT} {J I : IT} {Q : PQ}
/-- what the last stretch of prepare needs, once the block is known -/
def PreB (J S : IT) (q : Int) (n : Nat) (U1 : IT) : Prop := (blkOK U1 (12 * (q + 1)) n (mFirstJ U1 q n) 0 ∧ ((blkV U1 (12 * (q + 1)) n (mFirstJ U1 q n) 0).map Prod.fst).Nodup ∧ (blkL U1 (12 * (q + 1)) n (mFirstJ U1 q n) 0).length ≤ 3 ∧ (blkJ U1 (12 * (q + 1)) n (mFirstJ U1 q n) 0).length ≤ 11) ∧
  ∀ J2 U2 : IT, BI J U1 J2 U2 (12 * (q + 1)) (blkL U1 (12 * (q + 1)) n (mFirstJ U1 q n) 0) (blkJ U1 (12 * (q + 1)) n (mFirstJ U1 q n) 0) (blkV U1 (12 * (q + 1)) n (mFirstJ U1 q n) 0) (blkL U1 (12 * (q + 1)) n (mFirstJ U1 q n) 0) (blkJ U1 (12 * (q + 1)) n (mFirstJ U1 q n) 0) (blkV U1 (12 * (q + 1)) n (mFirstJ U1 q n) 0) [] → ((U2 100 84 = ((blkL U1 (12 * (q + 1)) n (mFirstJ U1 q n) 0).length : Nat) ∧ ((blkL U1 (12 * (q + 1)) n (mFirstJ U1 q n) 0).length = 2 ∨ (blkL U1 (12 * (q + 1)) n (mFirstJ U1 q n) 0).length = 3)) ∧ blkOK U2 (12 * (q + 1)) n (mFirstJ U1 q n) 0 ∧ (∀ e ∈ (blkV U2 (12 * (q + 1)) n (mFirstJ U1 q n) 0), U2 282 e.1 = e.2) ∧ (blkL U2 (12 * (q + 1)) n (mFirstJ U1 q n) 0).length ≤ 4 ∧ (∀ e ∈ (blkF U2 (12 * (q + 1)) n (mFirstJ U1 q n) 0), (0 ≤ U2 257 ((12 * (q + 1)) + e.1) ∧ U2 257 ((12 * (q + 1)) + e.1) ≤ 20) ∧ (U2 256 ((12 * (q + 1)) + e.1) = 1 → mVlOK U2 q (e.2 + U2 257 ((12 * (q + 1)) + e.1)))) ∧ (∀ k, 0 ≤ J2 287 k ∧ J2 287 k ≤ 10) ∧ (∀ k, 0 ≤ U2 292 k ∧ U2 292 k ≤ 8)) ∧
    ∀ U3 : IT, (∀ (o : Nat) (z : Int), o ≠ 283 → U3 o z = U2 o z) → CoOK ((blkF U2 (12 * (q + 1)) n (mFirstJ U1 q n) 0).foldl (psF U2 q) J2) U3 q (blkL U1 (12 * (q + 1)) n (mFirstJ U1 q n) 0).length (blkJ U1 (12 * (q + 1)) n (mFirstJ U1 q n) 0).length
/-- what prepare needs of a query that has no plan yet -/
def PreOK (J I : IT) (q : Int) (n : Nat) : Prop := (MB (up2 I 100 93 0) ∧ NOK (up2 I 100 93 0) q n ∧ 1 ≤ n) ∧ ∀ U1 : IT, NI (up2 I 100 93 0) U1 (12 * (q + 1)) n → (∀ j : Int, 0 ≤ j → j < n → mPass (U1 256 ((12 * (q + 1)) + j)) → 0 ≤ U1 279 j ∧ U1 279 j < j) ∧ (mFirstJ U1 q n ≠ -1 → PreB J (up2 I 100 93 0) q n U1)
/-- what prepare answers and leaves -/
def PrP (J I : IT) (q : Int) (n : Nat) (v : Int) (J' U : IT) : Prop :=
  (¬ (0 ≤ q ∧ q < I 100 61) ∧ v = 0 ∧ J' = J ∧ U = up2 I 100 93 1) ∨
  ((0 ≤ q ∧ q < I 100 61) ∧ I 263 q ≠ 0 ∧ v = I 264 q ∧ J' = J ∧ U = up2 I 100 93 0) ∨
  ((0 ≤ q ∧ q < I 100 61) ∧ I 263 q = 0 ∧ ∃ U1 : IT, NI (up2 I 100 93 0) U1 (12 * (q + 1)) n ∧
    ((mFirstJ U1 q n = -1 ∧ v = -1 ∧ J' = J ∧ U = U1) ∨
     (mFirstJ U1 q n ≠ -1 ∧ ∃ J2 U2 U3 : IT, BI J U1 J2 U2 (12 * (q + 1)) (blkL U1 (12 * (q + 1)) n (mFirstJ U1 q n) 0) (blkJ U1 (12 * (q + 1)) n (mFirstJ U1 q n) 0) (blkV U1 (12 * (q + 1)) n (mFirstJ U1 q n) 0) (blkL U1 (12 * (q + 1)) n (mFirstJ U1 q n) 0) (blkJ U1 (12 * (q + 1)) n (mFirstJ U1 q n) 0) (blkV U1 (12 * (q + 1)) n (mFirstJ U1 q n) 0) [] ∧ (∀ (o : Nat) (z : Int), o ≠ 283 → U3 o z = U2 o z) ∧ v = (bsE ((blkF U2 (12 * (q + 1)) n (mFirstJ U1 q n) 0).foldl (psF U2 q) J2) U3 q (blkL U1 (12 * (q + 1)) n (mFirstJ U1 q n) 0).length (blkJ U1 (12 * (q + 1)) n (mFirstJ U1 q n) 0).length).1 ∧ J' = ((blkF U2 (12 * (q + 1)) n (mFirstJ U1 q n) 0).foldl (psF U2 q) J2) ∧ U = prE ((blkF U2 (12 * (q + 1)) n (mFirstJ U1 q n) 0).foldl (psF U2 q) J2) U3 q (blkL U1 (12 * (q + 1)) n (mFirstJ U1 q n) 0).length (blkJ U1 (12 * (q + 1)) n (mFirstJ U1 q n) 0).length)))
theorem sp_Model_prepare {q : Int} {n : Nat} (hM : MW K P) (h61 : 0 ≤ I 100 61 ∧ I 100 61 ≤ 20) (h67 : 0 ≤ I 100 67 ∧ I 100 67 < 100000) (hk : (0 ≤ q ∧ q < I 100 61) → I 263 q = 0 → PreOK J I q n) : Sp m_Model_prepare false (rmv 3 82) (exY K P (PrP J I q n)) K P J I [vR (some 100), vI q] := by
  refine Sp.ofV (by decide) (Or.inr rfl) rfl ?_
  have r1 : ¬ (0 ≤ q ∧ q < I 100 61) → PrP J I q n 0 J (up2 I 100 93 1) := fun z => Or.inl ⟨z, rfl, rfl, rfl⟩
  have r2 : (0 ≤ q ∧ q < I 100 61) → I 263 q ≠ 0 → PrP J I q n (I 264 q) J (up2 I 100 93 0) := fun z y => Or.inr (Or.inl ⟨z, y, rfl, rfl, rfl⟩)
  have r3 : ∀ U1 : IT, (0 ≤ q ∧ q < I 100 61) → I 263 q = 0 → NI (up2 I 100 93 0) U1 (12 * (q + 1)) n → mFirstJ U1 q n = -1 → PrP J I q n (-1) J U1 := fun U1 z y w u => Or.inr (Or.inr ⟨z, y, U1, w, Or.inl ⟨u, rfl, rfl, rfl⟩⟩)
  have block : ∀ U1 : IT, (0 ≤ q ∧ q < I 100 61) → I 263 q = 0 → NI (up2 I 100 93 0) U1 (12 * (q + 1)) n → mFirstJ U1 q n ≠ -1 → PreB J (up2 I 100 93 0) q n U1 → VW m_Model_prepare false (rmv 3 82) (exY K P (PrP J I q n)) K P J U1 0 0 56 [(0, vR (some 100)), (1, vI q), (2, vI (mFirstJ U1 q n))] [] := by
    intro U1 hv h263 hN hf hp
    have q0 : 0 ≤ q ∧ q < 20 := by omega
    have n67 := hN.1 100 67 (by decide) (by decide) (by decide) (by decide)
    have n67 : U1 100 67 = I 100 67 := n67.trans (if_neg (by omega))
    obtain ⟨⟨o1, o2, o3, o4⟩, rest⟩ := hp
    have fb := sp_Model_findsBlock (K := K) (P := P) (J := J) (I := U1) (q := q) (first := mFirstJ U1 q n) (n := n) hM q0 o1 o2 o3 o4
    have seek : ∀ J2 U2 U3 : IT, BI J U1 J2 U2 (12 * (q + 1)) (blkL U1 (12 * (q + 1)) n (mFirstJ U1 q n) 0) (blkJ U1 (12 * (q + 1)) n (mFirstJ U1 q n) 0) (blkV U1 (12 * (q + 1)) n (mFirstJ U1 q n) 0) (blkL U1 (12 * (q + 1)) n (mFirstJ U1 q n) 0) (blkJ U1 (12 * (q + 1)) n (mFirstJ U1 q n) 0) (blkV U1 (12 * (q + 1)) n (mFirstJ U1 q n) 0) [] → (∀ (o : Nat) (z : Int), o ≠ 283 → U3 o z = U2 o z) → VW m_Model_prepare false (rmv 3 82) (exY K P (PrP J I q n)) K P ((blkF U2 (12 * (q + 1)) n (mFirstJ U1 q n) 0).foldl (psF U2 q) J2) U3 0 0 68 [(0, vR (some 100)), (1, vI q), (2, vI (mFirstJ U1 q n))] [] := by
      intro J2 U2 U3 hB h3
      obtain ⟨⟨⟨-, c2⟩, -⟩, c⟩ := rest J2 U2 hB
      have e67 : U3 100 67 = I 100 67 := (h3 100 67 (by decide)).trans ((hB.1.1 100 67 (by omega) (by omega)).trans n67)
      exact pr_search hM q0 c2 (c U3 h3) (by omega) (Or.inr (Or.inr ⟨hv, h263, U1, hN, Or.inr ⟨hf, J2, U2, U3, hB, h3, rfl, rfl, rfl⟩⟩))
    have pa : ∀ J2 U2 : IT, BI J U1 J2 U2 (12 * (q + 1)) (blkL U1 (12 * (q + 1)) n (mFirstJ U1 q n) 0) (blkJ U1 (12 * (q + 1)) n (mFirstJ U1 q n) 0) (blkV U1 (12 * (q + 1)) n (mFirstJ U1 q n) 0) (blkL U1 (12 * (q + 1)) n (mFirstJ U1 q n) 0) (blkJ U1 (12 * (q + 1)) n (mFirstJ U1 q n) 0) (blkV U1 (12 * (q + 1)) n (mFirstJ U1 q n) 0) [] → Sp m_Model_passes false (rmv 2 47) (exW K P (.inl none) (fun J' U => J' = ((blkF U2 (12 * (q + 1)) n (mFirstJ U1 q n) 0).foldl (psF U2 q) J2) ∧ ∀ (o : Nat) (z : Int), o ≠ 283 → U o z = U2 o z)) K P J2 U2 [vR (some 100), vI q, vI (mFirstJ U1 q n)] := by
      intro J2 U2 hB
      obtain ⟨⟨⟨c1, c2⟩, c3, c4, c5, c6, c7, c8⟩, -⟩ := rest J2 U2 hB
      exact sp_Model_passes hM q0 c1 (by omega) c3 c4 c5 c6 c7 c8
    clear rest o1 o2 o3 o4 hN h67 n67 r1 r2 r3 hk h61
    refine VW.aload_n (pc' := 57) d_Model_prepare_56 rfl rfl ?_
    refine VW.iload_n (pc' := 58) d_Model_prepare_57 rfl rfl ?_
    refine VW.iload_n (pc' := 59) d_Model_prepare_58 rfl rfl ?_
    refine VW.cVw (ci := 11) (T := T11) (N := 94) (pc' := 62) d_Model_prepare_59 rfl mv_Model_findsBlock lk_Model_533 rfl (hM.k rfl) rfl rfl rfl (Nat.le_refl _) (Nat.le_refl _) (fb) rfl rfl (fun J2 U2 hB => ?_)
    refine VW.aload_n (pc' := 63) d_Model_prepare_62 rfl rfl ?_
    refine VW.iload_n (pc' := 64) d_Model_prepare_63 rfl rfl ?_
    refine VW.iload_n (pc' := 65) d_Model_prepare_64 rfl rfl ?_
    
    refine VW.cVw (ci := 11) (T := T11) (N := 94) (pc' := 68) d_Model_prepare_65 rfl mv_Model_passes lk_Model_536 rfl (hM.k rfl) rfl rfl rfl (Nat.le_refl _) (Nat.le_refl _) ((pa J2 U2 hB)) rfl rfl (fun J3 U3 hP => ?_)
    refine VW.pick [0, 1, 2] ?_
    (obtain ⟨eJ, h3⟩ := hP; rw [eJ]; exact seek J2 U2 U3 hB h3)
  have fn : (0 ≤ q ∧ q < I 100 61) → I 263 q = 0 → Sp m_Model_findsNodes false (rmv 1 22) (exU K P J (.inl none) (fun U => NI (up2 I 100 93 0) U (12 * (q + 1)) n)) K P J (up2 I 100 93 0) [vR (some 100), vI q] := fun z y => sp_Model_findsNodes hM (hk z y).1.1 (by omega) (hk z y).1.2.1
  have fj : ∀ U1 : IT, (0 ≤ q ∧ q < I 100 61) → I 263 q = 0 → NI (up2 I 100 93 0) U1 (12 * (q + 1)) n → Sp m_Model_firstJoin false (rmv 2 42) (ex K P J U1 (.inl (some (vI (mFirstJ U1 q n))))) K P J U1 [vR (some 100), vI q] := by
    intro U1 z y w
    have a := hk z y
    have e262 := w.1 262 q (by decide) (by decide) (by decide) (by decide)
    rw [a.1.2.1.1.1] at e262
    exact sp_Model_firstJoin hM (by omega) e262 ⟨a.1.2.2, a.1.2.1.1.2⟩ (a.2 U1 w).1
  have bl : ∀ U1 : IT, (0 ≤ q ∧ q < I 100 61) → I 263 q = 0 → NI (up2 I 100 93 0) U1 (12 * (q + 1)) n → mFirstJ U1 q n ≠ -1 → VW m_Model_prepare false (rmv 3 82) (exY K P (PrP J I q n)) K P J U1 0 0 56 [(0, vR (some 100)), (1, vI q), (2, vI (mFirstJ U1 q n))] [] := fun U1 z y w u => block U1 z y w u (((hk z y).2 U1 w).2 u)
  clear block hk
  have t22 : (0 ≤ q ∧ q < I 100 61) → VW m_Model_prepare false (rmv 3 82) (exY K P (PrP J I q n)) K P J (up2 I 100 93 0) 0 0 22 [(0, vR (some 100)), (1, vI q)] [] := by
    intro z
    have q0 : 0 ≤ q ∧ q < 20 := by omega
    have fn := fn z
    have fj := fun U1 => fj U1 z
    have bl := fun U1 => bl U1 z
    have r2 := r2 z
    have r3 := fun U1 => r3 U1 z
    clear r1 h67
    refine VW.aload_n (pc' := 23) d_Model_prepare_22 rfl rfl ?_
    refine VW.gP (ci := 11) (T := T11) (N := 94) (k := 63) (k' := 63) (pc' := 26) d_Model_prepare_23 rfl lk_Model_162 in11 rfl rfl rfl rfl (hM.k rfl) (hM.p (r := some 263) 63 rfl rfl) ?_
    refine VW.iload_n (pc' := 27) d_Model_prepare_26 rfl rfl ?_
    refine VW.zld (pc' := 28) d_Model_prepare_27 rfl (hM.k rfl) (by omega) (by omega) (by first | exact up2_o _ _ _ _ (by decide) | rfl) ?_
    refine VW.if_eq (tgt := 38) (pc' := 31) d_Model_prepare_28 rfl rfl (fun c28 => ?_) (fun c28 => ?_)
    · try have e28 := bIe c28
      refine VW.aload_n (pc' := 39) d_Model_prepare_38 rfl rfl ?_
      refine VW.iload_n (pc' := 40) d_Model_prepare_39 rfl rfl ?_
      refine VW.cVu (ci := 11) (T := T11) (N := 94) (pc' := 43) d_Model_prepare_40 rfl mv_Model_findsNodes lk_Model_527 rfl (hM.k rfl) rfl rfl rfl (Nat.le_refl _) (Nat.le_refl _) ((fn c28)) rfl rfl (fun U1 hU => ?_)
      refine VW.aload_n (pc' := 44) d_Model_prepare_43 rfl rfl ?_
      refine VW.iload_n (pc' := 45) d_Model_prepare_44 rfl rfl ?_
      refine VW.cV (ci := 11) (T := T11) (N := 94) (pc' := 48) d_Model_prepare_45 rfl mv_Model_firstJoin lk_Model_530 rfl (hM.k rfl) rfl rfl rfl (Nat.le_refl _) (Nat.le_refl _) ((fj U1 c28 hU)) rfl rfl ?_
      refine VW.istore_n (pc' := 49) d_Model_prepare_48 rfl rfl ?_
      refine VW.iload_n (pc' := 50) d_Model_prepare_49 rfl rfl ?_
      refine VW.iconst (pc' := 51) d_Model_prepare_50 rfl (by decide) ?_
      refine VW.icmp_ne (tgt := 56) (pc' := 54) d_Model_prepare_51 rfl rfl (fun c51 => ?_) (fun c51 => ?_)
      · refine VW.pick [0, 1, 2] ?_
        exact bl U1 c28 hU c51
      · refine VW.iconst (pc' := 55) d_Model_prepare_54 rfl (by decide) ?_
        exact VW.iret d_Model_prepare_55 rfl rfl (Nat.zero_le _) (Nat.zero_le _) (exY_mk (r3 U1 c28 hU c51))
    · try have e28 := bIn c28
      refine VW.aload_n (pc' := 32) d_Model_prepare_31 rfl rfl ?_
      refine VW.gP (ci := 11) (T := T11) (N := 94) (k := 64) (k' := 64) (pc' := 35) d_Model_prepare_32 rfl lk_Model_165 in11 rfl rfl rfl rfl (hM.k rfl) (hM.p (r := some 264) 64 rfl rfl) ?_
      refine VW.iload_n (pc' := 36) d_Model_prepare_35 rfl rfl ?_
      refine VW.ild (pc' := 37) d_Model_prepare_36 rfl (hM.k rfl) (by omega) (by omega) (by first | exact up2_o _ _ _ _ (by decide) | rfl) ?_
      exact VW.iret d_Model_prepare_37 rfl rfl (Nat.zero_le _) (Nat.zero_le _) (exY_mk (r2 c28))
  clear fn fj bl r2 r3
  refine VW.aload_n (pc' := 1) d_Model_prepare_0 rfl rfl ?_
  refine VW.aload_n (pc' := 2) d_Model_prepare_1 rfl rfl ?_
  refine VW.iload_n (pc' := 3) d_Model_prepare_2 rfl rfl ?_
  refine VW.cV (ci := 11) (T := T11) (N := 94) (pc' := 6) d_Model_prepare_3 rfl mv_Model_isQuery lk_Model_486 rfl (hM.k rfl) rfl rfl rfl (Nat.le_refl _) (Nat.le_refl _) (sp_Model_isQuery hM h61.1) rfl rfl ?_
  refine VW.if_eq (tgt := 13) (pc' := 9) d_Model_prepare_6 rfl rfl (fun c6 => ?_) (fun c6 => ?_)
  · try have e6 := bIe c6
    refine VW.iconst (pc' := 14) d_Model_prepare_13 rfl (by decide) ?_
    refine VW.cV (ci := 11) (T := T11) (N := 94) (pc' := 17) d_Model_prepare_14 rfl mv_Model_fails lk_Model_254 rfl (hM.k rfl) rfl rfl rfl (Nat.le_refl _) (Nat.le_refl _) (sp_Model_fails hM) rfl rfl ?_
    refine VW.if_eq (tgt := 22) (pc' := 20) d_Model_prepare_17 rfl rfl (fun c17 => ?_) (fun c17 => ?_)
    · try have e17 := bIe c17
      refine VW.pick [0, 1] ?_
      first | (exfalso; omega) | exact t22 e6
    · try have e17 := bIn c17
      refine VW.iconst (pc' := 21) d_Model_prepare_20 rfl (by decide) ?_
      exact VW.iret d_Model_prepare_21 rfl rfl (Nat.zero_le _) (Nat.zero_le _) (by first | (exfalso; omega) | exact exY_mk (r1 e6))
  · try have e6 := bIn c6
    refine VW.iconst (pc' := 10) d_Model_prepare_9 rfl (by decide) ?_
    refine VW.goto (pc' := 14) d_Model_prepare_10 rfl ?_
    refine VW.cV (ci := 11) (T := T11) (N := 94) (pc' := 17) d_Model_prepare_14 rfl mv_Model_fails lk_Model_254 rfl (hM.k rfl) rfl rfl rfl (Nat.le_refl _) (Nat.le_refl _) (sp_Model_fails hM) rfl rfl ?_
    refine VW.if_eq (tgt := 22) (pc' := 20) d_Model_prepare_17 rfl rfl (fun c17 => ?_) (fun c17 => ?_)
    · try have e17 := bIe c17
      refine VW.pick [0, 1] ?_
      first | (exfalso; omega) | exact t22 e6
    · try have e17 := bIn c17
      refine VW.iconst (pc' := 21) d_Model_prepare_20 rfl (by decide) ?_
      exact VW.iret d_Model_prepare_21 rfl rfl (Nat.zero_le _) (Nat.zero_le _) (by first | (exfalso; omega) | exact exY_mk (r1 e6))
end
