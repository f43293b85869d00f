section
variable {K : KT} {P : PT} {J I : IT}
/-- where a key's writer and stamp stand -/
noncomputable def fpO (t y : Int) : Int := if -1000 ≤ y ∧ y ≤ 1000 then t * 2001 + y + 1000 else -1
theorem fpO_rg {t y : Int} (ht : 0 ≤ t ∧ t < 6) : fpO t y = -1 ∨ (0 ≤ fpO t y ∧ fpO t y < 12006) := by
  unfold fpO
  split
  · exact Or.inr (by omega)
  · exact Or.inl rfl
theorem sp_Engine_footprint {t y : Int} (ht : 0 ≤ t ∧ t < 6) : Sp m_Engine_footprint false (rmv 1 21) (ex K P J I (.inl (some (vI (fpO t y))))) K P J I [vI t, vI y] := by
  refine Sp.ofV (by decide) (Or.inr rfl) rfl ?_
  have y1 : (-1000 ≤ y ∧ y ≤ 1000) → t * 2001 + y + 1000 = fpO t y := fun h => (if_pos h).symm
  have y0 : ¬ (-1000 ≤ y ∧ y ≤ 1000) → (-1 : Int) = fpO t y := fun h => (if_neg h).symm
  refine VW.iload_n (pc' := 1) d_Engine_footprint_0 rfl rfl ?_
  refine VW.cSN (host := "RowForge") (pc' := 4) d_Engine_footprint_1 rfl ms_F_isNumber (by decide) rfl rfl rfl (Nat.le_refl _) (Nat.le_refl _) (sp_F_isNumber) rfl rfl ?_
  refine VW.if_eq (tgt := 21) (pc' := 7) d_Engine_footprint_4 rfl rfl (fun c4 => ?_) (fun c4 => ?_)
  · try have e4 := bIe c4
    refine VW.iconst (pc' := 22) d_Engine_footprint_21 rfl (by decide) ?_
    exact VW.iret d_Engine_footprint_22 rfl rfl (Nat.zero_le _) (Nat.zero_le _) (by first | (rw [y1 (bIn c4)]; exact ex_rf) | (rw [y0 (bIe c4)]; exact ex_rf))
  · try have e4 := bIn c4
    refine VW.iload_n (pc' := 8) d_Engine_footprint_7 rfl rfl ?_
    refine VW.sipush (pc' := 11) d_Engine_footprint_8 rfl (by decide) ?_
    refine VW.imul (pc' := 12) d_Engine_footprint_11 rfl (by have := bIn c4; omega) ?_
    refine VW.iload_n (pc' := 13) d_Engine_footprint_12 rfl rfl ?_
    refine VW.iadd (pc' := 14) d_Engine_footprint_13 rfl (by have := bIn c4; omega) ?_
    refine VW.sipush (pc' := 17) d_Engine_footprint_14 rfl (by decide) ?_
    refine VW.iadd (pc' := 18) d_Engine_footprint_17 rfl (by have := bIn c4; omega) ?_
    refine VW.goto (pc' := 22) d_Engine_footprint_18 rfl ?_
    exact VW.iret d_Engine_footprint_22 rfl rfl (Nat.zero_le _) (Nat.zero_le _) (by first | (rw [y1 (bIn c4)]; exact ex_rf) | (rw [y0 (bIe c4)]; exact ex_rf))
/-- a row was committed since a transaction began -/
def csG (I : IT) (x : Nat) (t y : Int) : Prop := fpO t y ≠ -1 ∧ I x 2 < I 1070 (fpO t y)
/-- a row is written by i -/
def wbG (I : IT) (i t y : Int) : Prop := fpO t y ≠ -1 ∧ I 1069 (fpO t y) = i
theorem sp_Engine_isCommittedSince {x : Nat} {t y : Int} (hC : ClW K P) (hx : K x = some (8, 0)) (ht : 0 ≤ t ∧ t < 6) : Sp m_Engine_isCommittedSince false (rmv 2 42) (ex K P J I (.inl (some (vI (bI (csG I x t y)))))) K P J I [vR (some 1064), vR (some x), vI t, vI y] := by
  refine Sp.ofV (by decide) (Or.inr rfl) rfl ?_
  have fr := fpO_rg (y := y) ht
  refine VW.iload_n (pc' := 1) d_Engine_isCommittedSince_0 rfl rfl ?_
  refine VW.iload_n (pc' := 2) d_Engine_isCommittedSince_1 rfl rfl ?_
  refine VW.cS (pc' := 5) d_Engine_isCommittedSince_2 rfl ms_Engine_footprint lk_Engine_140 rfl rfl rfl (Nat.le_refl _) (Nat.le_refl _) (sp_Engine_footprint ht) rfl rfl ?_
  refine VW.istore (pc' := 7) d_Engine_isCommittedSince_5 rfl rfl ?_
  refine VW.iload (pc' := 9) d_Engine_isCommittedSince_7 rfl rfl ?_
  refine VW.iconst (pc' := 10) d_Engine_isCommittedSince_9 rfl (by decide) ?_
  refine VW.icmp_eq (tgt := 31) (pc' := 13) d_Engine_isCommittedSince_10 rfl rfl (fun c10 => ?_) (fun c10 => ?_)
  · refine VW.iconst (pc' := 32) d_Engine_isCommittedSince_31 rfl (by decide) ?_
    exact VW.iret d_Engine_isCommittedSince_32 rfl rfl (Nat.zero_le _) (Nat.zero_le _) (by first | exact ex_v (bI1 ⟨c10, by omega⟩) | exact ex_v (bI0 (fun h => h.1 c10)) | exact ex_v (bI0 (fun h => by have := h.2; omega)))
  · refine VW.aload_n (pc' := 14) d_Engine_isCommittedSince_13 rfl rfl ?_
    refine VW.gP (ci := 0) (T := T0) (N := 8) (k := 5) (k' := 5) (pc' := 17) d_Engine_isCommittedSince_14 rfl lk_Engine_36 in0 rfl rfl rfl rfl (by first | exact hC.k 9 rfl | exact hC.k 10 rfl | exact hC.k 11 rfl | exact hC.k 12 rfl | exact hC.k 13 rfl | exact hC.k 17 rfl | exact hC.k 18 rfl | exact hx) (by first | exact hC.p 15 rfl | exact hC.p 19 rfl | exact hC.p 20 rfl | exact hC.p 21 rfl | exact hC.p 27 rfl | exact hC.p 28 rfl | rfl) ?_
    refine VW.iload (pc' := 19) d_Engine_isCommittedSince_17 rfl rfl ?_
    refine VW.ild (pc' := 20) d_Engine_isCommittedSince_19 rfl (by first | exact hC.k 9 rfl | exact hC.k 10 rfl | exact hC.k 11 rfl | exact hC.k 12 rfl | exact hC.k 13 rfl | exact hC.k 17 rfl | exact hC.k 18 rfl | exact hx) (by omega) (by omega) (by first | exact hC.p 15 rfl | exact hC.p 19 rfl | exact hC.p 20 rfl | exact hC.p 21 rfl | exact hC.p 27 rfl | exact hC.p 28 rfl | rfl) ?_
    refine VW.aload_n (pc' := 21) d_Engine_isCommittedSince_20 rfl rfl ?_
    refine VW.gI (ci := 8) (T := T8) (N := 19) (k := 2) (k' := 2) (pc' := 24) d_Engine_isCommittedSince_21 rfl lk_Engine_151 in8 rfl rfl rfl rfl (by first | exact hC.k 9 rfl | exact hC.k 10 rfl | exact hC.k 11 rfl | exact hC.k 12 rfl | exact hC.k 13 rfl | exact hC.k 17 rfl | exact hC.k 18 rfl | exact hx) (by first | exact hC.p 15 rfl | exact hC.p 19 rfl | exact hC.p 20 rfl | exact hC.p 21 rfl | exact hC.p 27 rfl | exact hC.p 28 rfl | rfl) ?_
    refine VW.icmp_le (tgt := 31) (pc' := 27) d_Engine_isCommittedSince_24 rfl rfl (fun c24 => ?_) (fun c24 => ?_)
    · refine VW.iconst (pc' := 32) d_Engine_isCommittedSince_31 rfl (by decide) ?_
      exact VW.iret d_Engine_isCommittedSince_32 rfl rfl (Nat.zero_le _) (Nat.zero_le _) (by first | exact ex_v (bI1 ⟨c10, by omega⟩) | exact ex_v (bI0 (fun h => h.1 c10)) | exact ex_v (bI0 (fun h => by have := h.2; omega)))
    · refine VW.iconst (pc' := 28) d_Engine_isCommittedSince_27 rfl (by decide) ?_
      refine VW.goto (pc' := 32) d_Engine_isCommittedSince_28 rfl ?_
      exact VW.iret d_Engine_isCommittedSince_32 rfl rfl (Nat.zero_le _) (Nat.zero_le _) (by first | exact ex_v (bI1 ⟨c10, by omega⟩) | exact ex_v (bI0 (fun h => h.1 c10)) | exact ex_v (bI0 (fun h => by have := h.2; omega)))
theorem sp_Engine_isWrittenBy {i t y : Int} (hC : ClW K P) (ht : 0 ≤ t ∧ t < 6) : Sp m_Engine_isWrittenBy false (rmv 2 42) (ex K P J I (.inl (some (vI (bI (wbG I i t y)))))) K P J I [vR (some 1064), vI i, vI t, vI y] := by
  refine Sp.ofV (by decide) (Or.inr rfl) rfl ?_
  have fr := fpO_rg (y := y) ht
  refine VW.iload_n (pc' := 1) d_Engine_isWrittenBy_0 rfl rfl ?_
  refine VW.iload_n (pc' := 2) d_Engine_isWrittenBy_1 rfl rfl ?_
  refine VW.cS (pc' := 5) d_Engine_isWrittenBy_2 rfl ms_Engine_footprint lk_Engine_140 rfl rfl rfl (Nat.le_refl _) (Nat.le_refl _) (sp_Engine_footprint ht) rfl rfl ?_
  refine VW.istore (pc' := 7) d_Engine_isWrittenBy_5 rfl rfl ?_
  refine VW.iload (pc' := 9) d_Engine_isWrittenBy_7 rfl rfl ?_
  refine VW.iconst (pc' := 10) d_Engine_isWrittenBy_9 rfl (by decide) ?_
  refine VW.icmp_eq (tgt := 28) (pc' := 13) d_Engine_isWrittenBy_10 rfl rfl (fun c10 => ?_) (fun c10 => ?_)
  · refine VW.iconst (pc' := 29) d_Engine_isWrittenBy_28 rfl (by decide) ?_
    exact VW.iret d_Engine_isWrittenBy_29 rfl rfl (Nat.zero_le _) (Nat.zero_le _) (by first | exact ex_v (bI1 ⟨c10, c21⟩) | exact ex_v (bI0 (fun h => h.1 c10)) | exact ex_v (bI0 (fun h => c21 h.2)))
  · refine VW.aload_n (pc' := 14) d_Engine_isWrittenBy_13 rfl rfl ?_
    refine VW.gP (ci := 0) (T := T0) (N := 8) (k := 4) (k' := 4) (pc' := 17) d_Engine_isWrittenBy_14 rfl lk_Engine_32 in0 rfl rfl rfl rfl (by first | exact hC.k 9 rfl | exact hC.k 10 rfl | exact hC.k 11 rfl | exact hC.k 12 rfl | exact hC.k 13 rfl | exact hC.k 17 rfl | exact hC.k 18 rfl) (by first | exact hC.p 15 rfl | exact hC.p 19 rfl | exact hC.p 20 rfl | exact hC.p 21 rfl | exact hC.p 27 rfl | exact hC.p 28 rfl | rfl) ?_
    refine VW.iload (pc' := 19) d_Engine_isWrittenBy_17 rfl rfl ?_
    refine VW.ild (pc' := 20) d_Engine_isWrittenBy_19 rfl (by first | exact hC.k 9 rfl | exact hC.k 10 rfl | exact hC.k 11 rfl | exact hC.k 12 rfl | exact hC.k 13 rfl | exact hC.k 17 rfl | exact hC.k 18 rfl) (by omega) (by omega) (by first | exact hC.p 15 rfl | exact hC.p 19 rfl | exact hC.p 20 rfl | exact hC.p 21 rfl | exact hC.p 27 rfl | exact hC.p 28 rfl | rfl) ?_
    refine VW.iload_n (pc' := 21) d_Engine_isWrittenBy_20 rfl rfl ?_
    refine VW.icmp_ne (tgt := 28) (pc' := 24) d_Engine_isWrittenBy_21 rfl rfl (fun c21 => ?_) (fun c21 => ?_)
    · refine VW.iconst (pc' := 29) d_Engine_isWrittenBy_28 rfl (by decide) ?_
      exact VW.iret d_Engine_isWrittenBy_29 rfl rfl (Nat.zero_le _) (Nat.zero_le _) (by first | exact ex_v (bI1 ⟨c10, c21⟩) | exact ex_v (bI0 (fun h => h.1 c10)) | exact ex_v (bI0 (fun h => c21 h.2)))
    · refine VW.iconst (pc' := 25) d_Engine_isWrittenBy_24 rfl (by decide) ?_
      refine VW.goto (pc' := 29) d_Engine_isWrittenBy_25 rfl ?_
      exact VW.iret d_Engine_isWrittenBy_29 rfl rfl (Nat.zero_le _) (Nat.zero_le _) (by first | exact ex_v (bI1 ⟨c10, c21⟩) | exact ex_v (bI0 (fun h => h.1 c10)) | exact ex_v (bI0 (fun h => c21 h.2)))
/-- who else has written the row j of the trial -/
noncomputable def owJ (I : IT) (j : Int) : Int := if fpO (I 1102 j) (I 1103 j) = -1 then -1 else I 1069 (fpO (I 1102 j) (I 1103 j))
def owG (I : IT) (i : Int) (j : Int) : Prop := owJ I j ≠ -1 ∧ owJ I j ≠ i
noncomputable def owF (I : IT) (i : Int) (n : Nat) : Int := if fs (owG I i) 0 n = -1 then -1 else owJ I (fs (owG I i) 0 n)
theorem sp_Engine_firstOtherWriter {i : Int} {n : Nat} (hC : ClW K P) (hn : I 1096 7 = n ∧ n ≤ 48) (ht : ∀ j : Int, 0 ≤ j → j < n → 0 ≤ I 1102 j ∧ I 1102 j < 6) : Sp m_Engine_firstOtherWriter false (rmv 2 42) (ex K P J I (.inl (some (vI (owF I i n))))) K P J I [vR (some 1064), vI i] := by
  refine Sp.ofV (by decide) (Or.inr rfl) rfl ?_
  have e7 := hn.1
  have loop : ∀ (w : Nat) (j : Int), j + w = n → 0 ≤ j → (fs (owG I i) 0 n = fs (owG I i) j w) → VW m_Engine_firstOtherWriter false (rmv 2 42) (ex K P J I (.inl (some (vI (owF I i n))))) K P J I 0 0 2 [(0, vR (some 1064)), (1, vI i), (2, vI j)] [] := by
    intro w
    induction w with
    | zero =>
      intro j hj h0 hf
      have fin : (-1 : Int) = owF I i n := (if_pos hf).symm
      refine VW.iload_n (pc' := 3) d_Engine_firstOtherWriter_2 rfl rfl ?_
      refine VW.aload_n (pc' := 4) d_Engine_firstOtherWriter_3 rfl rfl ?_
      refine VW.gP (ci := 0) (T := T0) (N := 8) (k := 0) (k' := 0) (pc' := 7) d_Engine_firstOtherWriter_4 rfl lk_Engine_47 in0 rfl rfl rfl rfl (by first | exact hC.k 9 rfl | exact hC.k 10 rfl | exact hC.k 11 rfl | exact hC.k 12 rfl | exact hC.k 13 rfl | exact hC.k 17 rfl | exact hC.k 18 rfl) (by first | exact hC.p 15 rfl | exact hC.p 19 rfl | exact hC.p 20 rfl | exact hC.p 21 rfl | exact hC.p 27 rfl | exact hC.p 28 rfl | exact e7 | rfl) ?_
      refine VW.gI (ci := 9) (T := T9) (N := 8) (k := 7) (k' := 7) (pc' := 10) d_Engine_firstOtherWriter_7 rfl lk_Engine_131 in9 rfl rfl rfl rfl (by first | exact hC.k 9 rfl | exact hC.k 10 rfl | exact hC.k 11 rfl | exact hC.k 12 rfl | exact hC.k 13 rfl | exact hC.k 17 rfl | exact hC.k 18 rfl) (by first | exact hC.p 15 rfl | exact hC.p 19 rfl | exact hC.p 20 rfl | exact hC.p 21 rfl | exact hC.p 27 rfl | exact hC.p 28 rfl | exact e7 | rfl) ?_
      refine VW.icmp_ge (tgt := 73) (pc' := 13) d_Engine_firstOtherWriter_10 rfl rfl (fun c10 => ?_) (fun c10 => ?_)
      case refine_2 => exact absurd c10 (by omega)
      refine VW.iconst (pc' := 74) d_Engine_firstOtherWriter_73 rfl (by decide) ?_
      exact VW.iret d_Engine_firstOtherWriter_74 rfl rfl (Nat.zero_le _) (Nat.zero_le _) (by rw [fin]; exact ex_rf)
    | succ w ih =>
      intro j hj h0 hf
      have t6 := ht j h0 (by omega)
      have fr := fpO_rg (y := I 1103 j) t6
      have yes : owG I i j → owJ I j = owF I i n := fun h => by
        have e : fs (owG I i) 0 n = j := hf.trans (fs_yes h)
        unfold owF
        rw [e, if_neg (by omega)]
      have nx := fun (h : ¬ owG I i j) => ih (j + 1) (by omega) (by omega) (hf.trans (fs_no h))
      have o1 : fpO (I 1102 j) (I 1103 j) = -1 → owJ I j = -1 := fun h => if_pos h
      have o2 : fpO (I 1102 j) (I 1103 j) ≠ -1 → owJ I j = I 1069 (fpO (I 1102 j) (I 1103 j)) := fun h => if_neg h
      clear ih
      refine VW.iload_n (pc' := 3) d_Engine_firstOtherWriter_2 rfl rfl ?_
      refine VW.aload_n (pc' := 4) d_Engine_firstOtherWriter_3 rfl rfl ?_
      refine VW.gP (ci := 0) (T := T0) (N := 8) (k := 0) (k' := 0) (pc' := 7) d_Engine_firstOtherWriter_4 rfl lk_Engine_47 in0 rfl rfl rfl rfl (by first | exact hC.k 9 rfl | exact hC.k 10 rfl | exact hC.k 11 rfl | exact hC.k 12 rfl | exact hC.k 13 rfl | exact hC.k 17 rfl | exact hC.k 18 rfl) (by first | exact hC.p 15 rfl | exact hC.p 19 rfl | exact hC.p 20 rfl | exact hC.p 21 rfl | exact hC.p 27 rfl | exact hC.p 28 rfl | exact e7 | rfl) ?_
      refine VW.gI (ci := 9) (T := T9) (N := 8) (k := 7) (k' := 7) (pc' := 10) d_Engine_firstOtherWriter_7 rfl lk_Engine_131 in9 rfl rfl rfl rfl (by first | exact hC.k 9 rfl | exact hC.k 10 rfl | exact hC.k 11 rfl | exact hC.k 12 rfl | exact hC.k 13 rfl | exact hC.k 17 rfl | exact hC.k 18 rfl) (by first | exact hC.p 15 rfl | exact hC.p 19 rfl | exact hC.p 20 rfl | exact hC.p 21 rfl | exact hC.p 27 rfl | exact hC.p 28 rfl | exact e7 | rfl) ?_
      refine VW.icmp_ge (tgt := 73) (pc' := 13) d_Engine_firstOtherWriter_10 rfl rfl (fun c10 => ?_) (fun c10 => ?_)
      case refine_1 => exact absurd c10 (by omega)
      refine VW.aload_n (pc' := 14) d_Engine_firstOtherWriter_13 rfl rfl ?_
      refine VW.gP (ci := 0) (T := T0) (N := 8) (k := 0) (k' := 0) (pc' := 17) d_Engine_firstOtherWriter_14 rfl lk_Engine_47 in0 rfl rfl rfl rfl (by first | exact hC.k 9 rfl | exact hC.k 10 rfl | exact hC.k 11 rfl | exact hC.k 12 rfl | exact hC.k 13 rfl | exact hC.k 17 rfl | exact hC.k 18 rfl) (by first | exact hC.p 15 rfl | exact hC.p 19 rfl | exact hC.p 20 rfl | exact hC.p 21 rfl | exact hC.p 27 rfl | exact hC.p 28 rfl | exact e7 | rfl) ?_
      refine VW.gP (ci := 9) (T := T9) (N := 8) (k := 5) (k' := 5) (pc' := 20) d_Engine_firstOtherWriter_17 rfl lk_Engine_134 in9 rfl rfl rfl rfl (by first | exact hC.k 9 rfl | exact hC.k 10 rfl | exact hC.k 11 rfl | exact hC.k 12 rfl | exact hC.k 13 rfl | exact hC.k 17 rfl | exact hC.k 18 rfl) (by first | exact hC.p 15 rfl | exact hC.p 19 rfl | exact hC.p 20 rfl | exact hC.p 21 rfl | exact hC.p 27 rfl | exact hC.p 28 rfl | exact e7 | rfl) ?_
      refine VW.iload_n (pc' := 21) d_Engine_firstOtherWriter_20 rfl rfl ?_
      refine VW.ild (pc' := 22) d_Engine_firstOtherWriter_21 rfl (by first | exact hC.k 9 rfl | exact hC.k 10 rfl | exact hC.k 11 rfl | exact hC.k 12 rfl | exact hC.k 13 rfl | exact hC.k 17 rfl | exact hC.k 18 rfl) (by omega) (by omega) (by first | exact hC.p 15 rfl | exact hC.p 19 rfl | exact hC.p 20 rfl | exact hC.p 21 rfl | exact hC.p 27 rfl | exact hC.p 28 rfl | exact e7 | rfl) ?_
      refine VW.aload_n (pc' := 23) d_Engine_firstOtherWriter_22 rfl rfl ?_
      refine VW.gP (ci := 0) (T := T0) (N := 8) (k := 0) (k' := 0) (pc' := 26) d_Engine_firstOtherWriter_23 rfl lk_Engine_47 in0 rfl rfl rfl rfl (by first | exact hC.k 9 rfl | exact hC.k 10 rfl | exact hC.k 11 rfl | exact hC.k 12 rfl | exact hC.k 13 rfl | exact hC.k 17 rfl | exact hC.k 18 rfl) (by first | exact hC.p 15 rfl | exact hC.p 19 rfl | exact hC.p 20 rfl | exact hC.p 21 rfl | exact hC.p 27 rfl | exact hC.p 28 rfl | exact e7 | rfl) ?_
      refine VW.gP (ci := 9) (T := T9) (N := 8) (k := 6) (k' := 6) (pc' := 29) d_Engine_firstOtherWriter_26 rfl lk_Engine_137 in9 rfl rfl rfl rfl (by first | exact hC.k 9 rfl | exact hC.k 10 rfl | exact hC.k 11 rfl | exact hC.k 12 rfl | exact hC.k 13 rfl | exact hC.k 17 rfl | exact hC.k 18 rfl) (by first | exact hC.p 15 rfl | exact hC.p 19 rfl | exact hC.p 20 rfl | exact hC.p 21 rfl | exact hC.p 27 rfl | exact hC.p 28 rfl | exact e7 | rfl) ?_
      refine VW.iload_n (pc' := 30) d_Engine_firstOtherWriter_29 rfl rfl ?_
      refine VW.ild (pc' := 31) d_Engine_firstOtherWriter_30 rfl (by first | exact hC.k 9 rfl | exact hC.k 10 rfl | exact hC.k 11 rfl | exact hC.k 12 rfl | exact hC.k 13 rfl | exact hC.k 17 rfl | exact hC.k 18 rfl) (by omega) (by omega) (by first | exact hC.p 15 rfl | exact hC.p 19 rfl | exact hC.p 20 rfl | exact hC.p 21 rfl | exact hC.p 27 rfl | exact hC.p 28 rfl | exact e7 | rfl) ?_
      refine VW.cS (pc' := 34) d_Engine_firstOtherWriter_31 rfl ms_Engine_footprint lk_Engine_140 rfl rfl rfl (Nat.le_refl _) (Nat.le_refl _) (sp_Engine_footprint t6) rfl rfl ?_
      refine VW.istore_n (pc' := 35) d_Engine_firstOtherWriter_34 rfl rfl ?_
      refine VW.iload_n (pc' := 36) d_Engine_firstOtherWriter_35 rfl rfl ?_
      refine VW.iconst (pc' := 37) d_Engine_firstOtherWriter_36 rfl (by decide) ?_
      refine VW.icmp_ne (tgt := 44) (pc' := 40) d_Engine_firstOtherWriter_37 rfl rfl (fun c37 => ?_) (fun c37 => ?_)
      · refine VW.aload_n (pc' := 45) d_Engine_firstOtherWriter_44 rfl rfl ?_
        refine VW.gP (ci := 0) (T := T0) (N := 8) (k := 4) (k' := 4) (pc' := 48) d_Engine_firstOtherWriter_45 rfl lk_Engine_32 in0 rfl rfl rfl rfl (by first | exact hC.k 9 rfl | exact hC.k 10 rfl | exact hC.k 11 rfl | exact hC.k 12 rfl | exact hC.k 13 rfl | exact hC.k 17 rfl | exact hC.k 18 rfl) (by first | exact hC.p 15 rfl | exact hC.p 19 rfl | exact hC.p 20 rfl | exact hC.p 21 rfl | exact hC.p 27 rfl | exact hC.p 28 rfl | exact e7 | rfl) ?_
        refine VW.iload_n (pc' := 49) d_Engine_firstOtherWriter_48 rfl rfl ?_
        refine VW.ild (pc' := 50) d_Engine_firstOtherWriter_49 rfl (by first | exact hC.k 9 rfl | exact hC.k 10 rfl | exact hC.k 11 rfl | exact hC.k 12 rfl | exact hC.k 13 rfl | exact hC.k 17 rfl | exact hC.k 18 rfl) (by omega) (by omega) (by first | exact hC.p 15 rfl | exact hC.p 19 rfl | exact hC.p 20 rfl | exact hC.p 21 rfl | exact hC.p 27 rfl | exact hC.p 28 rfl | exact e7 | rfl) ?_
        refine VW.istore (pc' := 52) d_Engine_firstOtherWriter_50 rfl rfl ?_
        refine VW.iload (pc' := 54) d_Engine_firstOtherWriter_52 rfl rfl ?_
        refine VW.iconst (pc' := 55) d_Engine_firstOtherWriter_54 rfl (by decide) ?_
        refine VW.icmp_eq (tgt := 67) (pc' := 58) d_Engine_firstOtherWriter_55 rfl rfl (fun c55 => ?_) (fun c55 => ?_)
        · refine VW.iinc (pc' := 70) d_Engine_firstOtherWriter_67 rfl rfl rfl (by omega) ?_
          refine VW.goto (pc' := 2) d_Engine_firstOtherWriter_70 rfl ?_
          refine VW.pick [0, 1, 2] ?_
          first | exact nx (fun h => h.1 (o1 c37)) | exact nx (fun h => h.1 ((o2 c37).trans c55)) | exact nx (fun h => h.2 ((o2 c37).trans c61))
        · refine VW.iload (pc' := 60) d_Engine_firstOtherWriter_58 rfl rfl ?_
          refine VW.iload_n (pc' := 61) d_Engine_firstOtherWriter_60 rfl rfl ?_
          refine VW.icmp_eq (tgt := 67) (pc' := 64) d_Engine_firstOtherWriter_61 rfl rfl (fun c61 => ?_) (fun c61 => ?_)
          · refine VW.iinc (pc' := 70) d_Engine_firstOtherWriter_67 rfl rfl rfl (by omega) ?_
            refine VW.goto (pc' := 2) d_Engine_firstOtherWriter_70 rfl ?_
            refine VW.pick [0, 1, 2] ?_
            first | exact nx (fun h => h.1 (o1 c37)) | exact nx (fun h => h.1 ((o2 c37).trans c55)) | exact nx (fun h => h.2 ((o2 c37).trans c61))
          · refine VW.iload (pc' := 66) d_Engine_firstOtherWriter_64 rfl rfl ?_
            exact VW.iret d_Engine_firstOtherWriter_66 rfl rfl (Nat.zero_le _) (Nat.zero_le _) (by first | (rw [← o2 c37, yes ⟨by rw [o2 c37]; exact c55, by rw [o2 c37]; exact c61⟩]; exact ex_rf) | exact absurd rfl c55)
      · refine VW.iconst (pc' := 41) d_Engine_firstOtherWriter_40 rfl (by decide) ?_
        refine VW.goto (pc' := 50) d_Engine_firstOtherWriter_41 rfl ?_
        refine VW.istore (pc' := 52) d_Engine_firstOtherWriter_50 rfl rfl ?_
        refine VW.iload (pc' := 54) d_Engine_firstOtherWriter_52 rfl rfl ?_
        refine VW.iconst (pc' := 55) d_Engine_firstOtherWriter_54 rfl (by decide) ?_
        refine VW.icmp_eq (tgt := 67) (pc' := 58) d_Engine_firstOtherWriter_55 rfl rfl (fun _ => ?_) (fun c55 => absurd c55 (by decide))
        refine VW.iinc (pc' := 70) d_Engine_firstOtherWriter_67 rfl rfl rfl (by omega) ?_
        refine VW.goto (pc' := 2) d_Engine_firstOtherWriter_70 rfl ?_
        refine VW.pick [0, 1, 2] ?_
        first | exact nx (fun h => h.1 (o1 c37)) | exact nx (fun h => h.1 ((o2 c37).trans c55)) | exact nx (fun h => h.2 ((o2 c37).trans c61))
  have l9 := loop n 0 (by omega) (Int.le_refl _) rfl
  clear loop
  refine VW.iconst (pc' := 1) d_Engine_firstOtherWriter_0 rfl (by decide) ?_
  refine VW.istore_n (pc' := 2) d_Engine_firstOtherWriter_1 rfl rfl ?_
  refine VW.pick [0, 1, 2] ?_
  exact l9
theorem sp_Engine_isOvertaken {x n : Nat} (hC : ClW K P) (hx : K x = some (8, 0)) (hn : I 1096 7 = n ∧ n ≤ 48) (ht : ∀ j : Int, 0 ≤ j → j < n → 0 ≤ I 1102 j ∧ I 1102 j < 6) : Sp m_Engine_isOvertaken false (rmv 3 66) (ex K P J I (.inl (some (vI (bI (∃ j : Int, 0 ≤ j ∧ j < n ∧ csG I x (I 1102 j) (I 1103 j))))))) K P J I [vR (some 1064), vR (some x)] := by
  refine Sp.ofV (by decide) (Or.inr rfl) rfl ?_
  have e7 := hn.1
  have loop : ∀ (w : Nat) (j : Int), j + w = n → 0 ≤ j → (∀ q, 0 ≤ q → q < j → ¬ csG I x (I 1102 q) (I 1103 q)) → VW m_Engine_isOvertaken false (rmv 3 66) (ex K P J I (.inl (some (vI (bI (∃ j : Int, 0 ≤ j ∧ j < n ∧ csG I x (I 1102 j) (I 1103 j))))))) K P J I 0 0 2 [(0, vR (some 1064)), (1, vR (some x)), (2, vI j)] [] := by
    intro w
    induction w with
    | zero =>
      intro j hj h0 hf
      have fin : bI (∃ j : Int, 0 ≤ j ∧ j < n ∧ csG I x (I 1102 j) (I 1103 j)) = 0 := bI0 (fun ⟨q, a, b, c⟩ => hf q a (by omega) c)
      refine VW.iload_n (pc' := 3) d_Engine_isOvertaken_2 rfl rfl ?_
      refine VW.aload_n (pc' := 4) d_Engine_isOvertaken_3 rfl rfl ?_
      refine VW.gP (ci := 0) (T := T0) (N := 8) (k := 0) (k' := 0) (pc' := 7) d_Engine_isOvertaken_4 rfl lk_Engine_47 in0 rfl rfl rfl rfl (by first | exact hC.k 9 rfl | exact hC.k 10 rfl | exact hC.k 11 rfl | exact hC.k 12 rfl | exact hC.k 13 rfl | exact hC.k 17 rfl | exact hC.k 18 rfl) (by first | exact hC.p 15 rfl | exact hC.p 19 rfl | exact hC.p 20 rfl | exact hC.p 21 rfl | exact hC.p 27 rfl | exact hC.p 28 rfl | exact e7 | rfl) ?_
      refine VW.gI (ci := 9) (T := T9) (N := 8) (k := 7) (k' := 7) (pc' := 10) d_Engine_isOvertaken_7 rfl lk_Engine_131 in9 rfl rfl rfl rfl (by first | exact hC.k 9 rfl | exact hC.k 10 rfl | exact hC.k 11 rfl | exact hC.k 12 rfl | exact hC.k 13 rfl | exact hC.k 17 rfl | exact hC.k 18 rfl) (by first | exact hC.p 15 rfl | exact hC.p 19 rfl | exact hC.p 20 rfl | exact hC.p 21 rfl | exact hC.p 27 rfl | exact hC.p 28 rfl | exact e7 | rfl) ?_
      refine VW.icmp_ge (tgt := 47) (pc' := 13) d_Engine_isOvertaken_10 rfl rfl (fun c10 => ?_) (fun c10 => ?_)
      case refine_2 => exact absurd c10 (by omega)
      refine VW.iconst (pc' := 48) d_Engine_isOvertaken_47 rfl (by decide) ?_
      exact VW.iret d_Engine_isOvertaken_48 rfl rfl (Nat.zero_le _) (Nat.zero_le _) (ex_v fin)
    | succ w ih =>
      intro j hj h0 hf
      have t6 := ht j h0 (by omega)
      have yes : csG I x (I 1102 j) (I 1103 j) → bI (∃ j : Int, 0 ≤ j ∧ j < n ∧ csG I x (I 1102 j) (I 1103 j)) = 1 := fun h => bI1 ⟨j, h0, by omega, h⟩
      have nx := fun (h : ¬ csG I x (I 1102 j) (I 1103 j)) => ih (j + 1) (by omega) (by omega) (fun q a b => by
        by_cases e : q = j
        · rw [e]; exact h
        · exact hf q a (by omega))
      clear ih
      refine VW.iload_n (pc' := 3) d_Engine_isOvertaken_2 rfl rfl ?_
      refine VW.aload_n (pc' := 4) d_Engine_isOvertaken_3 rfl rfl ?_
      refine VW.gP (ci := 0) (T := T0) (N := 8) (k := 0) (k' := 0) (pc' := 7) d_Engine_isOvertaken_4 rfl lk_Engine_47 in0 rfl rfl rfl rfl (by first | exact hC.k 9 rfl | exact hC.k 10 rfl | exact hC.k 11 rfl | exact hC.k 12 rfl | exact hC.k 13 rfl | exact hC.k 17 rfl | exact hC.k 18 rfl) (by first | exact hC.p 15 rfl | exact hC.p 19 rfl | exact hC.p 20 rfl | exact hC.p 21 rfl | exact hC.p 27 rfl | exact hC.p 28 rfl | exact e7 | rfl) ?_
      refine VW.gI (ci := 9) (T := T9) (N := 8) (k := 7) (k' := 7) (pc' := 10) d_Engine_isOvertaken_7 rfl lk_Engine_131 in9 rfl rfl rfl rfl (by first | exact hC.k 9 rfl | exact hC.k 10 rfl | exact hC.k 11 rfl | exact hC.k 12 rfl | exact hC.k 13 rfl | exact hC.k 17 rfl | exact hC.k 18 rfl) (by first | exact hC.p 15 rfl | exact hC.p 19 rfl | exact hC.p 20 rfl | exact hC.p 21 rfl | exact hC.p 27 rfl | exact hC.p 28 rfl | exact e7 | rfl) ?_
      refine VW.icmp_ge (tgt := 47) (pc' := 13) d_Engine_isOvertaken_10 rfl rfl (fun c10 => ?_) (fun c10 => ?_)
      case refine_1 => exact absurd c10 (by omega)
      refine VW.aload_n (pc' := 14) d_Engine_isOvertaken_13 rfl rfl ?_
      refine VW.aload_n (pc' := 15) d_Engine_isOvertaken_14 rfl rfl ?_
      refine VW.aload_n (pc' := 16) d_Engine_isOvertaken_15 rfl rfl ?_
      refine VW.gP (ci := 0) (T := T0) (N := 8) (k := 0) (k' := 0) (pc' := 19) d_Engine_isOvertaken_16 rfl lk_Engine_47 in0 rfl rfl rfl rfl (by first | exact hC.k 9 rfl | exact hC.k 10 rfl | exact hC.k 11 rfl | exact hC.k 12 rfl | exact hC.k 13 rfl | exact hC.k 17 rfl | exact hC.k 18 rfl) (by first | exact hC.p 15 rfl | exact hC.p 19 rfl | exact hC.p 20 rfl | exact hC.p 21 rfl | exact hC.p 27 rfl | exact hC.p 28 rfl | exact e7 | rfl) ?_
      refine VW.gP (ci := 9) (T := T9) (N := 8) (k := 5) (k' := 5) (pc' := 22) d_Engine_isOvertaken_19 rfl lk_Engine_134 in9 rfl rfl rfl rfl (by first | exact hC.k 9 rfl | exact hC.k 10 rfl | exact hC.k 11 rfl | exact hC.k 12 rfl | exact hC.k 13 rfl | exact hC.k 17 rfl | exact hC.k 18 rfl) (by first | exact hC.p 15 rfl | exact hC.p 19 rfl | exact hC.p 20 rfl | exact hC.p 21 rfl | exact hC.p 27 rfl | exact hC.p 28 rfl | exact e7 | rfl) ?_
      refine VW.iload_n (pc' := 23) d_Engine_isOvertaken_22 rfl rfl ?_
      refine VW.ild (pc' := 24) d_Engine_isOvertaken_23 rfl (by first | exact hC.k 9 rfl | exact hC.k 10 rfl | exact hC.k 11 rfl | exact hC.k 12 rfl | exact hC.k 13 rfl | exact hC.k 17 rfl | exact hC.k 18 rfl) (by omega) (by omega) (by first | exact hC.p 15 rfl | exact hC.p 19 rfl | exact hC.p 20 rfl | exact hC.p 21 rfl | exact hC.p 27 rfl | exact hC.p 28 rfl | exact e7 | rfl) ?_
      refine VW.aload_n (pc' := 25) d_Engine_isOvertaken_24 rfl rfl ?_
      refine VW.gP (ci := 0) (T := T0) (N := 8) (k := 0) (k' := 0) (pc' := 28) d_Engine_isOvertaken_25 rfl lk_Engine_47 in0 rfl rfl rfl rfl (by first | exact hC.k 9 rfl | exact hC.k 10 rfl | exact hC.k 11 rfl | exact hC.k 12 rfl | exact hC.k 13 rfl | exact hC.k 17 rfl | exact hC.k 18 rfl) (by first | exact hC.p 15 rfl | exact hC.p 19 rfl | exact hC.p 20 rfl | exact hC.p 21 rfl | exact hC.p 27 rfl | exact hC.p 28 rfl | exact e7 | rfl) ?_
      refine VW.gP (ci := 9) (T := T9) (N := 8) (k := 6) (k' := 6) (pc' := 31) d_Engine_isOvertaken_28 rfl lk_Engine_137 in9 rfl rfl rfl rfl (by first | exact hC.k 9 rfl | exact hC.k 10 rfl | exact hC.k 11 rfl | exact hC.k 12 rfl | exact hC.k 13 rfl | exact hC.k 17 rfl | exact hC.k 18 rfl) (by first | exact hC.p 15 rfl | exact hC.p 19 rfl | exact hC.p 20 rfl | exact hC.p 21 rfl | exact hC.p 27 rfl | exact hC.p 28 rfl | exact e7 | rfl) ?_
      refine VW.iload_n (pc' := 32) d_Engine_isOvertaken_31 rfl rfl ?_
      refine VW.ild (pc' := 33) d_Engine_isOvertaken_32 rfl (by first | exact hC.k 9 rfl | exact hC.k 10 rfl | exact hC.k 11 rfl | exact hC.k 12 rfl | exact hC.k 13 rfl | exact hC.k 17 rfl | exact hC.k 18 rfl) (by omega) (by omega) (by first | exact hC.p 15 rfl | exact hC.p 19 rfl | exact hC.p 20 rfl | exact hC.p 21 rfl | exact hC.p 27 rfl | exact hC.p 28 rfl | exact e7 | rfl) ?_
      refine VW.cV (ci := 0) (T := T0) (N := 8) (pc' := 36) d_Engine_isOvertaken_33 rfl mv_Engine_isCommittedSince lk_Engine_147 rfl (by first | exact hC.k 9 rfl | exact hC.k 10 rfl | exact hC.k 11 rfl | exact hC.k 12 rfl | exact hC.k 13 rfl | exact hC.k 17 rfl | exact hC.k 18 rfl) rfl rfl rfl (Nat.le_refl _) (Nat.le_refl _) (sp_Engine_isCommittedSince hC hx t6) rfl rfl ?_
      refine VW.if_eq (tgt := 41) (pc' := 39) d_Engine_isOvertaken_36 rfl rfl (fun c36 => ?_) (fun c36 => ?_)
      · try have e36 := bIe c36
        refine VW.iinc (pc' := 44) d_Engine_isOvertaken_41 rfl rfl rfl (by omega) ?_
        refine VW.goto (pc' := 2) d_Engine_isOvertaken_44 rfl ?_
        refine VW.pick [0, 1, 2] ?_
        exact nx (bIe c36)
      · try have e36 := bIn c36
        refine VW.iconst (pc' := 40) d_Engine_isOvertaken_39 rfl (by decide) ?_
        exact VW.iret d_Engine_isOvertaken_40 rfl rfl (Nat.zero_le _) (Nat.zero_le _) (ex_v (yes (bIn c36)))
  have l9 := loop n 0 (by omega) (Int.le_refl _) (fun q a b => by omega)
  clear loop
  refine VW.iconst (pc' := 1) d_Engine_isOvertaken_0 rfl (by decide) ?_
  refine VW.istore_n (pc' := 2) d_Engine_isOvertaken_1 rfl rfl ?_
  refine VW.pick [0, 1, 2] ?_
  exact l9
end
