section
variable {K : KT} {P : PT} {J I : IT}
def tslot (c : Int) : Int := c / 32 * 4 + c % 4
theorem sp_Trial_targetSlot {c : Int} (hc : 0 ≤ c ∧ c < 192) : Sp m_Trial_targetSlot false (rmv 0 0) (ex K P J I (.inl (some (vI (tslot c))))) K P J I [vI c] := by
  refine Sp.ofV (by decide) (Or.inr rfl) rfl ?_
  have e1 : c.tdiv 32 = c / 32 := Int.tdiv_eq_ediv_of_nonneg hc.1
  have e2 : c.tmod 4 = c % 4 := Int.tmod_eq_emod_of_nonneg hc.1
  refine VW.iload_n (pc' := 1) d_Trial_targetSlot_0 rfl rfl ?_
  refine VW.bipush (pc' := 3) d_Trial_targetSlot_1 rfl (by decide) ?_
  refine VW.idiv (pc' := 4) d_Trial_targetSlot_3 rfl (by omega) (by omega) ?_
  refine VW.iconst (pc' := 5) d_Trial_targetSlot_4 rfl (by decide) ?_
  refine VW.imul (pc' := 6) d_Trial_targetSlot_5 rfl (by omega) ?_
  refine VW.iload_n (pc' := 7) d_Trial_targetSlot_6 rfl rfl ?_
  refine VW.iconst (pc' := 8) d_Trial_targetSlot_7 rfl (by decide) ?_
  refine VW.irem (pc' := 9) d_Trial_targetSlot_8 rfl (by omega) (by omega) ?_
  refine VW.iadd (pc' := 10) d_Trial_targetSlot_9 rfl (by omega) ?_
  exact VW.iret d_Trial_targetSlot_10 rfl rfl (Nat.zero_le _) (Nat.zero_le _) (by rw [e1, e2]; exact ex_rf)
theorem tslot_rg {c : Int} (hc : 0 ≤ c ∧ c < 192) : 0 ≤ tslot c ∧ tslot c < 24 := by unfold tslot; omega
/-- a cell refers to a row that goes, by a rule; its own row doesn't -/
def rfG (I : IT) (c r : Int) : Prop := I 1101 c ≠ -1 ∧ I 1099 (I 1101 c) ≠ 0 ∧ I 1099 (c / 4) = 0 ∧ I 1038 (tslot c) = r
theorem sp_Trial_refersToGone {c r : Int} (hC : ClW K P) (hc : 0 ≤ c ∧ c < 192) (hr : I 1101 c = -1 ∨ (0 ≤ I 1101 c ∧ I 1101 c < 48)) : Sp m_Trial_refersToGone false (rmv 1 22) (ex K P J I (.inl (some (vI (bI (rfG I c r)))))) K P J I [vR (some 1096), vI c, vI r] := by
  refine Sp.ofV (by decide) (Or.inr rfl) rfl ?_
  have e1 : c.tdiv 4 = c / 4 := Int.tdiv_eq_ediv_of_nonneg hc.1
  have ts := tslot_rg hc
  have no : ¬ rfG I c r → (0 : Int) = bI (rfG I c r) := fun h => (bI0 h).symm
  refine VW.aload_n (pc' := 1) d_Trial_refersToGone_0 rfl rfl ?_
  refine VW.gP (ci := 9) (T := T9) (N := 8) (k := 4) (k' := 4) (pc' := 4) d_Trial_refersToGone_1 rfl lk_Trial_25 in9 rfl rfl rfl rfl (by first | exact hC.k 13 rfl | exact hC.k 14 rfl | exact hC.k 15 rfl | exact hC.k 16 rfl | exact hC.k 17 rfl | exact hC.k 18 rfl | exact hC.k 19 rfl | exact hC.k 20 rfl | exact hC.k 2 rfl | exact hC.k 3 rfl | exact hC.k 6 rfl | exact hC.k 7 rfl) (by first | exact hC.p 22 rfl | exact hC.p 23 rfl | exact hC.p 24 rfl | exact hC.p 25 rfl | exact hC.p 26 rfl | exact hC.p 27 rfl | exact hC.p 28 rfl | exact hC.p 29 rfl | exact hC.p 9 rfl | exact hC.p 12 rfl | exact hC.p 13 rfl | rfl) ?_
  refine VW.iload_n (pc' := 5) d_Trial_refersToGone_4 rfl rfl ?_
  refine VW.ild (pc' := 6) d_Trial_refersToGone_5 rfl (by first | exact hC.k 13 rfl | exact hC.k 14 rfl | exact hC.k 15 rfl | exact hC.k 16 rfl | exact hC.k 17 rfl | exact hC.k 18 rfl | exact hC.k 19 rfl | exact hC.k 20 rfl | exact hC.k 2 rfl | exact hC.k 3 rfl | exact hC.k 6 rfl | exact hC.k 7 rfl) (by omega) (by omega) (by first | exact hC.p 22 rfl | exact hC.p 23 rfl | exact hC.p 24 rfl | exact hC.p 25 rfl | exact hC.p 26 rfl | exact hC.p 27 rfl | exact hC.p 28 rfl | exact hC.p 29 rfl | exact hC.p 9 rfl | exact hC.p 12 rfl | exact hC.p 13 rfl | rfl) ?_
  refine VW.istore_n (pc' := 7) d_Trial_refersToGone_6 rfl rfl ?_
  refine VW.iload_n (pc' := 8) d_Trial_refersToGone_7 rfl rfl ?_
  refine VW.iconst (pc' := 9) d_Trial_refersToGone_8 rfl (by decide) ?_
  refine VW.icmp_eq (tgt := 52) (pc' := 12) d_Trial_refersToGone_9 rfl rfl (fun c9 => ?_) (fun c9 => ?_)
  · refine VW.iconst (pc' := 53) d_Trial_refersToGone_52 rfl (by decide) ?_
    exact VW.iret d_Trial_refersToGone_53 rfl rfl (Nat.zero_le _) (Nat.zero_le _) (by first | exact ex_v (bI1 ⟨by omega, by omega, by omega, by omega⟩) | exact ex_v (bI0 (fun h => absurd h.1 (by omega))) | exact ex_v (bI0 (fun h => absurd h.2.1 (by omega))) | exact ex_v (bI0 (fun h => absurd h.2.2.1 (by omega))) | exact ex_v (bI0 (fun h => absurd h.2.2.2 (by omega))))
  · refine VW.aload_n (pc' := 13) d_Trial_refersToGone_12 rfl rfl ?_
    refine VW.gP (ci := 9) (T := T9) (N := 8) (k := 2) (k' := 2) (pc' := 16) d_Trial_refersToGone_13 rfl lk_Trial_18 in9 rfl rfl rfl rfl (by first | exact hC.k 13 rfl | exact hC.k 14 rfl | exact hC.k 15 rfl | exact hC.k 16 rfl | exact hC.k 17 rfl | exact hC.k 18 rfl | exact hC.k 19 rfl | exact hC.k 20 rfl | exact hC.k 2 rfl | exact hC.k 3 rfl | exact hC.k 6 rfl | exact hC.k 7 rfl) (by first | exact hC.p 22 rfl | exact hC.p 23 rfl | exact hC.p 24 rfl | exact hC.p 25 rfl | exact hC.p 26 rfl | exact hC.p 27 rfl | exact hC.p 28 rfl | exact hC.p 29 rfl | exact hC.p 9 rfl | exact hC.p 12 rfl | exact hC.p 13 rfl | rfl) ?_
    refine VW.iload_n (pc' := 17) d_Trial_refersToGone_16 rfl rfl ?_
    refine VW.zld (pc' := 18) d_Trial_refersToGone_17 rfl (by first | exact hC.k 13 rfl | exact hC.k 14 rfl | exact hC.k 15 rfl | exact hC.k 16 rfl | exact hC.k 17 rfl | exact hC.k 18 rfl | exact hC.k 19 rfl | exact hC.k 20 rfl | exact hC.k 2 rfl | exact hC.k 3 rfl | exact hC.k 6 rfl | exact hC.k 7 rfl) (by omega) (by omega) (by first | exact hC.p 22 rfl | exact hC.p 23 rfl | exact hC.p 24 rfl | exact hC.p 25 rfl | exact hC.p 26 rfl | exact hC.p 27 rfl | exact hC.p 28 rfl | exact hC.p 29 rfl | exact hC.p 9 rfl | exact hC.p 12 rfl | exact hC.p 13 rfl | rfl) ?_
    refine VW.if_eq (tgt := 52) (pc' := 21) d_Trial_refersToGone_18 rfl rfl (fun c18 => ?_) (fun c18 => ?_)
    · try have e18 := bIe c18
      refine VW.iconst (pc' := 53) d_Trial_refersToGone_52 rfl (by decide) ?_
      exact VW.iret d_Trial_refersToGone_53 rfl rfl (Nat.zero_le _) (Nat.zero_le _) (by first | exact ex_v (bI1 ⟨by omega, by omega, by omega, by omega⟩) | exact ex_v (bI0 (fun h => absurd h.1 (by omega))) | exact ex_v (bI0 (fun h => absurd h.2.1 (by omega))) | exact ex_v (bI0 (fun h => absurd h.2.2.1 (by omega))) | exact ex_v (bI0 (fun h => absurd h.2.2.2 (by omega))))
    · try have e18 := bIn c18
      refine VW.aload_n (pc' := 22) d_Trial_refersToGone_21 rfl rfl ?_
      refine VW.gP (ci := 9) (T := T9) (N := 8) (k := 2) (k' := 2) (pc' := 25) d_Trial_refersToGone_22 rfl lk_Trial_18 in9 rfl rfl rfl rfl (by first | exact hC.k 13 rfl | exact hC.k 14 rfl | exact hC.k 15 rfl | exact hC.k 16 rfl | exact hC.k 17 rfl | exact hC.k 18 rfl | exact hC.k 19 rfl | exact hC.k 20 rfl | exact hC.k 2 rfl | exact hC.k 3 rfl | exact hC.k 6 rfl | exact hC.k 7 rfl) (by first | exact hC.p 22 rfl | exact hC.p 23 rfl | exact hC.p 24 rfl | exact hC.p 25 rfl | exact hC.p 26 rfl | exact hC.p 27 rfl | exact hC.p 28 rfl | exact hC.p 29 rfl | exact hC.p 9 rfl | exact hC.p 12 rfl | exact hC.p 13 rfl | rfl) ?_
      refine VW.iload_n (pc' := 26) d_Trial_refersToGone_25 rfl rfl ?_
      refine VW.iconst (pc' := 27) d_Trial_refersToGone_26 rfl (by decide) ?_
      refine VW.idiv (pc' := 28) d_Trial_refersToGone_27 rfl (by omega) (by omega) ?_
      rw [e1]
      refine VW.zld (pc' := 29) d_Trial_refersToGone_28 rfl (by first | exact hC.k 13 rfl | exact hC.k 14 rfl | exact hC.k 15 rfl | exact hC.k 16 rfl | exact hC.k 17 rfl | exact hC.k 18 rfl | exact hC.k 19 rfl | exact hC.k 20 rfl | exact hC.k 2 rfl | exact hC.k 3 rfl | exact hC.k 6 rfl | exact hC.k 7 rfl) (by omega) (by omega) (by first | exact hC.p 22 rfl | exact hC.p 23 rfl | exact hC.p 24 rfl | exact hC.p 25 rfl | exact hC.p 26 rfl | exact hC.p 27 rfl | exact hC.p 28 rfl | exact hC.p 29 rfl | exact hC.p 9 rfl | exact hC.p 12 rfl | exact hC.p 13 rfl | rfl) ?_
      refine VW.if_ne (tgt := 52) (pc' := 32) d_Trial_refersToGone_29 rfl rfl (fun c29 => ?_) (fun c29 => ?_)
      · try have e29 := bIn c29
        refine VW.iconst (pc' := 53) d_Trial_refersToGone_52 rfl (by decide) ?_
        exact VW.iret d_Trial_refersToGone_53 rfl rfl (Nat.zero_le _) (Nat.zero_le _) (by first | exact ex_v (bI1 ⟨by omega, by omega, by omega, by omega⟩) | exact ex_v (bI0 (fun h => absurd h.1 (by omega))) | exact ex_v (bI0 (fun h => absurd h.2.1 (by omega))) | exact ex_v (bI0 (fun h => absurd h.2.2.1 (by omega))) | exact ex_v (bI0 (fun h => absurd h.2.2.2 (by omega))))
      · try have e29 := bIe c29
        refine VW.aload_n (pc' := 33) d_Trial_refersToGone_32 rfl rfl ?_
        refine VW.gP (ci := 9) (T := T9) (N := 8) (k := 0) (k' := 0) (pc' := 36) d_Trial_refersToGone_33 rfl lk_Trial_35 in9 rfl rfl rfl rfl (by first | exact hC.k 13 rfl | exact hC.k 14 rfl | exact hC.k 15 rfl | exact hC.k 16 rfl | exact hC.k 17 rfl | exact hC.k 18 rfl | exact hC.k 19 rfl | exact hC.k 20 rfl | exact hC.k 2 rfl | exact hC.k 3 rfl | exact hC.k 6 rfl | exact hC.k 7 rfl) (by first | exact hC.p 22 rfl | exact hC.p 23 rfl | exact hC.p 24 rfl | exact hC.p 25 rfl | exact hC.p 26 rfl | exact hC.p 27 rfl | exact hC.p 28 rfl | exact hC.p 29 rfl | exact hC.p 9 rfl | exact hC.p 12 rfl | exact hC.p 13 rfl | rfl) ?_
        refine VW.gP (ci := 7) (T := T7) (N := 8) (k := 5) (k' := 5) (pc' := 39) d_Trial_refersToGone_36 rfl lk_Trial_159 in7 rfl rfl rfl rfl (by first | exact hC.k 13 rfl | exact hC.k 14 rfl | exact hC.k 15 rfl | exact hC.k 16 rfl | exact hC.k 17 rfl | exact hC.k 18 rfl | exact hC.k 19 rfl | exact hC.k 20 rfl | exact hC.k 2 rfl | exact hC.k 3 rfl | exact hC.k 6 rfl | exact hC.k 7 rfl) (by first | exact hC.p 22 rfl | exact hC.p 23 rfl | exact hC.p 24 rfl | exact hC.p 25 rfl | exact hC.p 26 rfl | exact hC.p 27 rfl | exact hC.p 28 rfl | exact hC.p 29 rfl | exact hC.p 9 rfl | exact hC.p 12 rfl | exact hC.p 13 rfl | rfl) ?_
        refine VW.iload_n (pc' := 40) d_Trial_refersToGone_39 rfl rfl ?_
        refine VW.cS (pc' := 43) d_Trial_refersToGone_40 rfl ms_Trial_targetSlot lk_Trial_156 rfl rfl rfl (Nat.le_refl _) (Nat.le_refl _) (sp_Trial_targetSlot hc) rfl rfl ?_
        refine VW.ild (pc' := 44) d_Trial_refersToGone_43 rfl (by first | exact hC.k 13 rfl | exact hC.k 14 rfl | exact hC.k 15 rfl | exact hC.k 16 rfl | exact hC.k 17 rfl | exact hC.k 18 rfl | exact hC.k 19 rfl | exact hC.k 20 rfl | exact hC.k 2 rfl | exact hC.k 3 rfl | exact hC.k 6 rfl | exact hC.k 7 rfl) (by omega) (by omega) (by first | exact hC.p 22 rfl | exact hC.p 23 rfl | exact hC.p 24 rfl | exact hC.p 25 rfl | exact hC.p 26 rfl | exact hC.p 27 rfl | exact hC.p 28 rfl | exact hC.p 29 rfl | exact hC.p 9 rfl | exact hC.p 12 rfl | exact hC.p 13 rfl | rfl) ?_
        refine VW.iload_n (pc' := 45) d_Trial_refersToGone_44 rfl rfl ?_
        refine VW.icmp_ne (tgt := 52) (pc' := 48) d_Trial_refersToGone_45 rfl rfl (fun c45 => ?_) (fun c45 => ?_)
        · refine VW.iconst (pc' := 53) d_Trial_refersToGone_52 rfl (by decide) ?_
          exact VW.iret d_Trial_refersToGone_53 rfl rfl (Nat.zero_le _) (Nat.zero_le _) (by first | exact ex_v (bI1 ⟨by omega, by omega, by omega, by omega⟩) | exact ex_v (bI0 (fun h => absurd h.1 (by omega))) | exact ex_v (bI0 (fun h => absurd h.2.1 (by omega))) | exact ex_v (bI0 (fun h => absurd h.2.2.1 (by omega))) | exact ex_v (bI0 (fun h => absurd h.2.2.2 (by omega))))
        · refine VW.iconst (pc' := 49) d_Trial_refersToGone_48 rfl (by decide) ?_
          refine VW.goto (pc' := 53) d_Trial_refersToGone_49 rfl ?_
          exact VW.iret d_Trial_refersToGone_53 rfl rfl (Nat.zero_le _) (Nat.zero_le _) (by first | exact ex_v (bI1 ⟨by omega, by omega, by omega, by omega⟩) | exact ex_v (bI0 (fun h => absurd h.1 (by omega))) | exact ex_v (bI0 (fun h => absurd h.2.1 (by omega))) | exact ex_v (bI0 (fun h => absurd h.2.2.1 (by omega))) | exact ex_v (bI0 (fun h => absurd h.2.2.2 (by omega))))
theorem sp_Trial_isRestricted (hC : ClW K P) (hr : (∀ c, 0 ≤ c → c < 192 → I 1101 c = -1 ∨ (0 ≤ I 1101 c ∧ I 1101 c < 48))) : Sp m_Trial_isRestricted false (rmv 2 50) (ex K P J I (.inl (some (vI (bI (∃ c, 0 ≤ c ∧ c < 192 ∧ rfG I c 0)))))) K P J I [vR (some 1096)] := by
  refine Sp.ofV (by decide) (Or.inr rfl) rfl ?_
  have loop : ∀ (w : Nat) (c : Int), c + w = 192 → 0 ≤ c → (∀ j, 0 ≤ j → j < c → ¬ rfG I j 0) → VW m_Trial_isRestricted false (rmv 2 50) (ex K P J I (.inl (some (vI (bI (∃ c, 0 ≤ c ∧ c < 192 ∧ rfG I c 0)))))) K P J I 0 0 2 [(0, vR (some 1096)), (1, vI c)] [] := by
    intro w
    induction w with
    | zero =>
      intro c hc h0 hn
      have fin : bI (∃ c, 0 ≤ c ∧ c < 192 ∧ rfG I c 0) = 0 := bI0 (fun ⟨j, j0, j1, j2⟩ => hn j j0 (by omega) j2)
      refine VW.iload_n (pc' := 3) d_Trial_isRestricted_2 rfl rfl ?_
      refine VW.aload_n (pc' := 4) d_Trial_isRestricted_3 rfl rfl ?_
      refine VW.gP (ci := 9) (T := T9) (N := 8) (k := 4) (k' := 4) (pc' := 7) d_Trial_isRestricted_4 rfl lk_Trial_25 in9 rfl rfl rfl rfl (by first | exact hC.k 13 rfl | exact hC.k 14 rfl | exact hC.k 15 rfl | exact hC.k 16 rfl | exact hC.k 17 rfl | exact hC.k 18 rfl | exact hC.k 19 rfl | exact hC.k 20 rfl | exact hC.k 2 rfl | exact hC.k 3 rfl | exact hC.k 6 rfl | exact hC.k 7 rfl) (by first | exact hC.p 22 rfl | exact hC.p 23 rfl | exact hC.p 24 rfl | exact hC.p 25 rfl | exact hC.p 26 rfl | exact hC.p 27 rfl | exact hC.p 28 rfl | exact hC.p 29 rfl | exact hC.p 9 rfl | exact hC.p 12 rfl | exact hC.p 13 rfl | rfl) ?_
      refine VW.alen (pc' := 8) d_Trial_isRestricted_7 rfl (by first | exact hC.k 13 rfl | exact hC.k 14 rfl | exact hC.k 15 rfl | exact hC.k 16 rfl | exact hC.k 17 rfl | exact hC.k 18 rfl | exact hC.k 19 rfl | exact hC.k 20 rfl | exact hC.k 2 rfl | exact hC.k 3 rfl | exact hC.k 6 rfl | exact hC.k 7 rfl) (by simp) (by omega) ?_
      refine VW.icmp_ge (tgt := 28) (pc' := 11) d_Trial_isRestricted_8 rfl rfl (fun c8 => ?_) (fun c8 => ?_)
      case refine_2 => exact absurd c8 (by omega)
      refine VW.iconst (pc' := 29) d_Trial_isRestricted_28 rfl (by decide) ?_
      exact VW.iret d_Trial_isRestricted_29 rfl rfl (Nat.zero_le _) (Nat.zero_le _) (ex_v fin)
    | succ w ih =>
      intro c hc h0 hn
      have fin : rfG I c 0 → bI (∃ c, 0 ≤ c ∧ c < 192 ∧ rfG I c 0) = 1 := fun h => bI1 ⟨c, h0, by omega, h⟩
      have nx := fun (h : ¬ rfG I c 0) => ih (c + 1) (by omega) (by omega) (fun j j0 j1 => by
        by_cases e : j = c
        · rw [e]; exact h
        · exact hn j j0 (by omega))
      clear ih
      refine VW.iload_n (pc' := 3) d_Trial_isRestricted_2 rfl rfl ?_
      refine VW.aload_n (pc' := 4) d_Trial_isRestricted_3 rfl rfl ?_
      refine VW.gP (ci := 9) (T := T9) (N := 8) (k := 4) (k' := 4) (pc' := 7) d_Trial_isRestricted_4 rfl lk_Trial_25 in9 rfl rfl rfl rfl (by first | exact hC.k 13 rfl | exact hC.k 14 rfl | exact hC.k 15 rfl | exact hC.k 16 rfl | exact hC.k 17 rfl | exact hC.k 18 rfl | exact hC.k 19 rfl | exact hC.k 20 rfl | exact hC.k 2 rfl | exact hC.k 3 rfl | exact hC.k 6 rfl | exact hC.k 7 rfl) (by first | exact hC.p 22 rfl | exact hC.p 23 rfl | exact hC.p 24 rfl | exact hC.p 25 rfl | exact hC.p 26 rfl | exact hC.p 27 rfl | exact hC.p 28 rfl | exact hC.p 29 rfl | exact hC.p 9 rfl | exact hC.p 12 rfl | exact hC.p 13 rfl | rfl) ?_
      refine VW.alen (pc' := 8) d_Trial_isRestricted_7 rfl (by first | exact hC.k 13 rfl | exact hC.k 14 rfl | exact hC.k 15 rfl | exact hC.k 16 rfl | exact hC.k 17 rfl | exact hC.k 18 rfl | exact hC.k 19 rfl | exact hC.k 20 rfl | exact hC.k 2 rfl | exact hC.k 3 rfl | exact hC.k 6 rfl | exact hC.k 7 rfl) (by simp) (by omega) ?_
      refine VW.icmp_ge (tgt := 28) (pc' := 11) d_Trial_isRestricted_8 rfl rfl (fun c8 => ?_) (fun c8 => ?_)
      case refine_1 => exact absurd c8 (by omega)
      refine VW.aload_n (pc' := 12) d_Trial_isRestricted_11 rfl rfl ?_
      refine VW.iload_n (pc' := 13) d_Trial_isRestricted_12 rfl rfl ?_
      refine VW.iconst (pc' := 14) d_Trial_isRestricted_13 rfl (by decide) ?_
      refine VW.cV (ci := 9) (T := T9) (N := 8) (pc' := 17) d_Trial_isRestricted_14 rfl mv_Trial_refersToGone lk_Trial_162 rfl (by first | exact hC.k 13 rfl | exact hC.k 14 rfl | exact hC.k 15 rfl | exact hC.k 16 rfl | exact hC.k 17 rfl | exact hC.k 18 rfl | exact hC.k 19 rfl | exact hC.k 20 rfl | exact hC.k 2 rfl | exact hC.k 3 rfl | exact hC.k 6 rfl | exact hC.k 7 rfl) rfl rfl rfl (Nat.le_refl _) (Nat.le_refl _) (sp_Trial_refersToGone hC ⟨h0, by omega⟩ (hr c h0 (by omega))) rfl rfl ?_
      refine VW.if_eq (tgt := 22) (pc' := 20) d_Trial_isRestricted_17 rfl rfl (fun c17 => ?_) (fun c17 => ?_)
      · try have e17 := bIe c17
        refine VW.iinc (pc' := 25) d_Trial_isRestricted_22 rfl rfl rfl (by omega) ?_
        refine VW.goto (pc' := 2) d_Trial_isRestricted_25 rfl ?_
        refine VW.pick [0, 1] ?_
        exact nx (bIe c17)
      · try have e17 := bIn c17
        refine VW.iconst (pc' := 21) d_Trial_isRestricted_20 rfl (by decide) ?_
        exact VW.iret d_Trial_isRestricted_21 rfl rfl (Nat.zero_le _) (Nat.zero_le _) (ex_v (fin e17))
  have l9 := loop 192 0 (by omega) (Int.le_refl _) (fun j j0 j1 => by omega)
  clear loop
  refine VW.iconst (pc' := 1) d_Trial_isRestricted_0 rfl (by decide) ?_
  refine VW.istore_n (pc' := 2) d_Trial_isRestricted_1 rfl rfl ?_
  refine VW.pick [0, 1] ?_
  exact l9
/-- the place of the row that a cell refers to -/
noncomputable def refC (I : IT) (a : Nat) (c : Int) : Int := if I 1037 (tslot c) = -1 then -1 else rwFind I a (I 1037 (tslot c)) (I a c)
noncomputable def faI (I : IT) (a : Nat) (n : Int) : IT := fun o z => if o = 1101 ∧ 0 ≤ z ∧ z < n then refC I a z else if (o = 1099 ∨ o = 1100) ∧ 0 ≤ z ∧ z * 4 < n then 0 else I o z
theorem refC_rg {a : Nat} {c : Int} (ht : I 1037 (tslot c) = -1 ∨ (0 ≤ I 1037 (tslot c) ∧ I 1037 (tslot c) < 6)) : refC I a c = -1 ∨ (0 ≤ refC I a c ∧ refC I a c < 48) := by
  unfold refC rwFind
  split
  · exact Or.inl rfl
  · split
    · exact Or.inl rfl
    · rcases rwF_rg I a (I 1037 (tslot c)) (I a c) with h | h
      · exact Or.inl h
      · exact Or.inr (by omega)
theorem faI_o {a o : Nat} {n : Int} (h1 : o ≠ 1101) (h2 : o ≠ 1099) (h3 : o ≠ 1100) : faI I a n o = I o := by
  funext z
  unfold faI
  rw [if_neg (fun q => h1 q.1), if_neg (fun q => q.1.elim h2 h3)]
theorem faI_0 {a : Nat} : faI I a 0 = I := by
  funext o z
  unfold faI
  rw [if_neg (by omega), if_neg (by omega)]
theorem faI_step {a : Nat} {n : Int} (hn : 0 ≤ n) : faI I a (n + 1) = up2 (up2 (up2 (faI I a n) 1101 n (refC I a n)) 1099 (n / 4) 0) 1100 (n / 4) 0 := by
  funext o z
  unfold faI up2
  dsimp only
  (repeat' split) <;> first | rfl | (exfalso; omega) | (have e : z = n := by omega
                                                        rw [e])
theorem sp_Trial_findAllReferred {r a : Nat} (hC : ClW K P) (hR : RwW K P r a) (ha : a ≠ 1101 ∧ a ≠ 1099 ∧ a ≠ 1100) (ht : ∀ c, 0 ≤ c → c < 24 → I 1037 c = -1 ∨ (0 ≤ I 1037 c ∧ I 1037 c < 6)) : Sp m_Trial_findAllReferred false (rmv 2 45) (ex K P J (faI I a 192) (.inl none)) K P J I [vR (some 1096), vR (some r)] := by
  refine Sp.ofV (by decide) (Or.inr rfl) rfl ?_
  have loop : ∀ (w : Nat) (c : Int), c + w = 192 → 0 ≤ c → VW m_Trial_findAllReferred false (rmv 2 45) (ex K P J (faI I a 192) (.inl none)) K P J (faI I a c) 0 0 2 [(0, vR (some 1096)), (1, vR (some r)), (2, vI c)] [] := by
    intro w
    induction w with
    | zero =>
      intro c hc h0
      have e : c = 192 := by omega
      subst e
      refine VW.iload_n (pc' := 3) d_Trial_findAllReferred_2 rfl rfl ?_
      refine VW.aload_n (pc' := 4) d_Trial_findAllReferred_3 rfl rfl ?_
      refine VW.gP (ci := 9) (T := T9) (N := 8) (k := 4) (k' := 4) (pc' := 7) d_Trial_findAllReferred_4 rfl lk_Trial_25 in9 rfl rfl rfl rfl (by first | exact hC.k 13 rfl | exact hC.k 14 rfl | exact hC.k 15 rfl | exact hC.k 16 rfl | exact hC.k 17 rfl | exact hC.k 18 rfl | exact hC.k 19 rfl | exact hC.k 20 rfl | exact hC.k 2 rfl | exact hC.k 3 rfl | exact hC.k 6 rfl | exact hC.k 7 rfl) (by first | exact hC.p 22 rfl | exact hC.p 23 rfl | exact hC.p 24 rfl | exact hC.p 25 rfl | exact hC.p 26 rfl | exact hC.p 27 rfl | exact hC.p 28 rfl | exact hC.p 29 rfl | exact hC.p 9 rfl | exact hC.p 12 rfl | exact hC.p 13 rfl | rfl) ?_
      refine VW.alen (pc' := 8) d_Trial_findAllReferred_7 rfl (by first | exact hC.k 13 rfl | exact hC.k 14 rfl | exact hC.k 15 rfl | exact hC.k 16 rfl | exact hC.k 17 rfl | exact hC.k 18 rfl | exact hC.k 19 rfl | exact hC.k 20 rfl | exact hC.k 2 rfl | exact hC.k 3 rfl | exact hC.k 6 rfl | exact hC.k 7 rfl) (by simp) (by omega) ?_
      refine VW.icmp_ge (tgt := 77) (pc' := 11) d_Trial_findAllReferred_8 rfl rfl (fun c8 => ?_) (fun c8 => ?_)
      case refine_2 => exact absurd c8 (by omega)
      exact VW.vret d_Trial_findAllReferred_77 rfl (Nat.zero_le _) (Nat.zero_le _) ex_rf
    | succ w ih =>
      intro c hc h0
      have nx := ih (c + 1) (by omega) (by omega)
      rw [faI_step h0] at nx
      clear ih
      have c1 : 0 ≤ c ∧ c < 192 := ⟨h0, by omega⟩
      have ts := tslot_rg c1
      have t1 : faI I a c 1037 = I 1037 := faI_o (by decide) (by decide) (by decide)
      have t2 : faI I a c a = I a := faI_o ha.1 ha.2.1 ha.2.2
      have t3 := ht (tslot c) ts.1 ts.2
      have e1 : c.tdiv 4 = c / 4 := Int.tdiv_eq_ediv_of_nonneg h0
      have hv26 : faI I a c 1037 (tslot c) = I 1037 (tslot c) := congrFun t1 _
      have hv52 : faI I a c a c = I a c := congrFun t2 _
      have ef : ∀ t y, rwFind (faI I a c) a t y = rwFind I a t y := fun t y => by
        unfold rwFind rwF
        rw [t2]
      have y1 : I 1037 (tslot c) = -1 → refC I a c = -1 := fun h => if_pos h
      have y2 : I 1037 (tslot c) ≠ -1 → refC I a c = rwFind I a (I 1037 (tslot c)) (I a c) := fun h => if_neg h
      refine VW.iload_n (pc' := 3) d_Trial_findAllReferred_2 rfl rfl ?_
      refine VW.aload_n (pc' := 4) d_Trial_findAllReferred_3 rfl rfl ?_
      refine VW.gP (ci := 9) (T := T9) (N := 8) (k := 4) (k' := 4) (pc' := 7) d_Trial_findAllReferred_4 rfl lk_Trial_25 in9 rfl rfl rfl rfl (by first | exact hC.k 13 rfl | exact hC.k 14 rfl | exact hC.k 15 rfl | exact hC.k 16 rfl | exact hC.k 17 rfl | exact hC.k 18 rfl | exact hC.k 19 rfl | exact hC.k 20 rfl | exact hC.k 2 rfl | exact hC.k 3 rfl | exact hC.k 6 rfl | exact hC.k 7 rfl | exact hR.1 | exact hR.2.2) (by first | exact hC.p 22 rfl | exact hC.p 23 rfl | exact hC.p 24 rfl | exact hC.p 25 rfl | exact hC.p 26 rfl | exact hC.p 27 rfl | exact hC.p 28 rfl | exact hC.p 29 rfl | exact hC.p 9 rfl | exact hC.p 12 rfl | exact hC.p 13 rfl | exact hR.2.1 | exact hv26 | exact hv52 | rfl) ?_
      refine VW.alen (pc' := 8) d_Trial_findAllReferred_7 rfl (by first | exact hC.k 13 rfl | exact hC.k 14 rfl | exact hC.k 15 rfl | exact hC.k 16 rfl | exact hC.k 17 rfl | exact hC.k 18 rfl | exact hC.k 19 rfl | exact hC.k 20 rfl | exact hC.k 2 rfl | exact hC.k 3 rfl | exact hC.k 6 rfl | exact hC.k 7 rfl | exact hR.1 | exact hR.2.2) (by simp) (by omega) ?_
      refine VW.icmp_ge (tgt := 77) (pc' := 11) d_Trial_findAllReferred_8 rfl rfl (fun c8 => ?_) (fun c8 => ?_)
      case refine_1 => exact absurd c8 (by omega)
      refine VW.iload_n (pc' := 12) d_Trial_findAllReferred_11 rfl rfl ?_
      refine VW.iconst (pc' := 13) d_Trial_findAllReferred_12 rfl (by decide) ?_
      refine VW.idiv (pc' := 14) d_Trial_findAllReferred_13 rfl (by omega) (by omega) ?_
      rw [e1]
      refine VW.istore_n (pc' := 15) d_Trial_findAllReferred_14 rfl rfl ?_
      refine VW.aload_n (pc' := 16) d_Trial_findAllReferred_15 rfl rfl ?_
      refine VW.gP (ci := 9) (T := T9) (N := 8) (k := 0) (k' := 0) (pc' := 19) d_Trial_findAllReferred_16 rfl lk_Trial_35 in9 rfl rfl rfl rfl (by first | exact hC.k 13 rfl | exact hC.k 14 rfl | exact hC.k 15 rfl | exact hC.k 16 rfl | exact hC.k 17 rfl | exact hC.k 18 rfl | exact hC.k 19 rfl | exact hC.k 20 rfl | exact hC.k 2 rfl | exact hC.k 3 rfl | exact hC.k 6 rfl | exact hC.k 7 rfl | exact hR.1 | exact hR.2.2) (by first | exact hC.p 22 rfl | exact hC.p 23 rfl | exact hC.p 24 rfl | exact hC.p 25 rfl | exact hC.p 26 rfl | exact hC.p 27 rfl | exact hC.p 28 rfl | exact hC.p 29 rfl | exact hC.p 9 rfl | exact hC.p 12 rfl | exact hC.p 13 rfl | exact hR.2.1 | exact hv26 | exact hv52 | rfl) ?_
      refine VW.gP (ci := 7) (T := T7) (N := 8) (k := 4) (k' := 4) (pc' := 22) d_Trial_findAllReferred_19 rfl lk_Trial_153 in7 rfl rfl rfl rfl (by first | exact hC.k 13 rfl | exact hC.k 14 rfl | exact hC.k 15 rfl | exact hC.k 16 rfl | exact hC.k 17 rfl | exact hC.k 18 rfl | exact hC.k 19 rfl | exact hC.k 20 rfl | exact hC.k 2 rfl | exact hC.k 3 rfl | exact hC.k 6 rfl | exact hC.k 7 rfl | exact hR.1 | exact hR.2.2) (by first | exact hC.p 22 rfl | exact hC.p 23 rfl | exact hC.p 24 rfl | exact hC.p 25 rfl | exact hC.p 26 rfl | exact hC.p 27 rfl | exact hC.p 28 rfl | exact hC.p 29 rfl | exact hC.p 9 rfl | exact hC.p 12 rfl | exact hC.p 13 rfl | exact hR.2.1 | exact hv26 | exact hv52 | rfl) ?_
      refine VW.iload_n (pc' := 23) d_Trial_findAllReferred_22 rfl rfl ?_
      refine VW.cS (pc' := 26) d_Trial_findAllReferred_23 rfl ms_Trial_targetSlot lk_Trial_156 rfl rfl rfl (Nat.le_refl _) (Nat.le_refl _) (sp_Trial_targetSlot c1) rfl rfl ?_
      refine VW.ild (pc' := 27) d_Trial_findAllReferred_26 rfl (by first | exact hC.k 13 rfl | exact hC.k 14 rfl | exact hC.k 15 rfl | exact hC.k 16 rfl | exact hC.k 17 rfl | exact hC.k 18 rfl | exact hC.k 19 rfl | exact hC.k 20 rfl | exact hC.k 2 rfl | exact hC.k 3 rfl | exact hC.k 6 rfl | exact hC.k 7 rfl | exact hR.1 | exact hR.2.2) (by omega) (by omega) (by first | exact hC.p 22 rfl | exact hC.p 23 rfl | exact hC.p 24 rfl | exact hC.p 25 rfl | exact hC.p 26 rfl | exact hC.p 27 rfl | exact hC.p 28 rfl | exact hC.p 29 rfl | exact hC.p 9 rfl | exact hC.p 12 rfl | exact hC.p 13 rfl | exact hR.2.1 | exact hv26 | exact hv52 | rfl) ?_
      refine VW.istore (pc' := 29) d_Trial_findAllReferred_27 rfl rfl ?_
      refine VW.aload_n (pc' := 30) d_Trial_findAllReferred_29 rfl rfl ?_
      refine VW.gP (ci := 9) (T := T9) (N := 8) (k := 4) (k' := 4) (pc' := 33) d_Trial_findAllReferred_30 rfl lk_Trial_25 in9 rfl rfl rfl rfl (by first | exact hC.k 13 rfl | exact hC.k 14 rfl | exact hC.k 15 rfl | exact hC.k 16 rfl | exact hC.k 17 rfl | exact hC.k 18 rfl | exact hC.k 19 rfl | exact hC.k 20 rfl | exact hC.k 2 rfl | exact hC.k 3 rfl | exact hC.k 6 rfl | exact hC.k 7 rfl | exact hR.1 | exact hR.2.2) (by first | exact hC.p 22 rfl | exact hC.p 23 rfl | exact hC.p 24 rfl | exact hC.p 25 rfl | exact hC.p 26 rfl | exact hC.p 27 rfl | exact hC.p 28 rfl | exact hC.p 29 rfl | exact hC.p 9 rfl | exact hC.p 12 rfl | exact hC.p 13 rfl | exact hR.2.1 | exact hv26 | exact hv52 | rfl) ?_
      refine VW.iload_n (pc' := 34) d_Trial_findAllReferred_33 rfl rfl ?_
      refine VW.iload (pc' := 36) d_Trial_findAllReferred_34 rfl rfl ?_
      refine VW.iconst (pc' := 37) d_Trial_findAllReferred_36 rfl (by decide) ?_
      refine VW.icmp_ne (tgt := 44) (pc' := 40) d_Trial_findAllReferred_37 rfl rfl (fun c37 => ?_) (fun c37 => ?_)
      · refine VW.aload_n (pc' := 45) d_Trial_findAllReferred_44 rfl rfl ?_
        refine VW.iload (pc' := 47) d_Trial_findAllReferred_45 rfl rfl ?_
        refine VW.aload_n (pc' := 48) d_Trial_findAllReferred_47 rfl rfl ?_
        refine VW.gP (ci := 6) (T := T6) (N := 1) (k := 0) (k' := 0) (pc' := 51) d_Trial_findAllReferred_48 rfl lk_Trial_117 in6 rfl rfl rfl rfl (by first | exact hC.k 13 rfl | exact hC.k 14 rfl | exact hC.k 15 rfl | exact hC.k 16 rfl | exact hC.k 17 rfl | exact hC.k 18 rfl | exact hC.k 19 rfl | exact hC.k 20 rfl | exact hC.k 2 rfl | exact hC.k 3 rfl | exact hC.k 6 rfl | exact hC.k 7 rfl | exact hR.1 | exact hR.2.2) (by first | exact hC.p 22 rfl | exact hC.p 23 rfl | exact hC.p 24 rfl | exact hC.p 25 rfl | exact hC.p 26 rfl | exact hC.p 27 rfl | exact hC.p 28 rfl | exact hC.p 29 rfl | exact hC.p 9 rfl | exact hC.p 12 rfl | exact hC.p 13 rfl | exact hR.2.1 | exact hv26 | exact hv52 | rfl) ?_
        refine VW.iload_n (pc' := 52) d_Trial_findAllReferred_51 rfl rfl ?_
        refine VW.ild (pc' := 53) d_Trial_findAllReferred_52 rfl (by first | exact hC.k 13 rfl | exact hC.k 14 rfl | exact hC.k 15 rfl | exact hC.k 16 rfl | exact hC.k 17 rfl | exact hC.k 18 rfl | exact hC.k 19 rfl | exact hC.k 20 rfl | exact hC.k 2 rfl | exact hC.k 3 rfl | exact hC.k 6 rfl | exact hC.k 7 rfl | exact hR.1 | exact hR.2.2) (by omega) (by omega) (by first | exact hC.p 22 rfl | exact hC.p 23 rfl | exact hC.p 24 rfl | exact hC.p 25 rfl | exact hC.p 26 rfl | exact hC.p 27 rfl | exact hC.p 28 rfl | exact hC.p 29 rfl | exact hC.p 9 rfl | exact hC.p 12 rfl | exact hC.p 13 rfl | exact hR.2.1 | exact hv26 | exact hv52 | rfl) ?_
        refine VW.cV (ci := 6) (T := T6) (N := 1) (pc' := 56) d_Trial_findAllReferred_53 rfl mv_Rows_find lk_Trial_92 rfl (by first | exact hC.k 13 rfl | exact hC.k 14 rfl | exact hC.k 15 rfl | exact hC.k 16 rfl | exact hC.k 17 rfl | exact hC.k 18 rfl | exact hC.k 19 rfl | exact hC.k 20 rfl | exact hC.k 2 rfl | exact hC.k 3 rfl | exact hC.k 6 rfl | exact hC.k 7 rfl | exact hR.1 | exact hR.2.2) rfl rfl rfl (Nat.le_refl _) (Nat.le_refl _) (sp_Rows_find hR (by omega)) rfl rfl ?_
        refine VW.iast (pc' := 57) d_Trial_findAllReferred_56 rfl (by first | exact hC.k 13 rfl | exact hC.k 14 rfl | exact hC.k 15 rfl | exact hC.k 16 rfl | exact hC.k 17 rfl | exact hC.k 18 rfl | exact hC.k 19 rfl | exact hC.k 20 rfl | exact hC.k 2 rfl | exact hC.k 3 rfl | exact hC.k 6 rfl | exact hC.k 7 rfl | exact hR.1 | exact hR.2.2) (by omega) (by omega) ?_
        refine VW.aload_n (pc' := 58) d_Trial_findAllReferred_57 rfl rfl ?_
        refine VW.gP (ci := 9) (T := T9) (N := 8) (k := 2) (k' := 2) (pc' := 61) d_Trial_findAllReferred_58 rfl lk_Trial_18 in9 rfl rfl rfl rfl (by first | exact hC.k 13 rfl | exact hC.k 14 rfl | exact hC.k 15 rfl | exact hC.k 16 rfl | exact hC.k 17 rfl | exact hC.k 18 rfl | exact hC.k 19 rfl | exact hC.k 20 rfl | exact hC.k 2 rfl | exact hC.k 3 rfl | exact hC.k 6 rfl | exact hC.k 7 rfl | exact hR.1 | exact hR.2.2) (by first | exact hC.p 22 rfl | exact hC.p 23 rfl | exact hC.p 24 rfl | exact hC.p 25 rfl | exact hC.p 26 rfl | exact hC.p 27 rfl | exact hC.p 28 rfl | exact hC.p 29 rfl | exact hC.p 9 rfl | exact hC.p 12 rfl | exact hC.p 13 rfl | exact hR.2.1 | exact hv26 | exact hv52 | rfl) ?_
        refine VW.iload_n (pc' := 62) d_Trial_findAllReferred_61 rfl rfl ?_
        refine VW.iconst (pc' := 63) d_Trial_findAllReferred_62 rfl (by decide) ?_
        refine VW.zast (pc' := 64) d_Trial_findAllReferred_63 rfl (by first | exact hC.k 13 rfl | exact hC.k 14 rfl | exact hC.k 15 rfl | exact hC.k 16 rfl | exact hC.k 17 rfl | exact hC.k 18 rfl | exact hC.k 19 rfl | exact hC.k 20 rfl | exact hC.k 2 rfl | exact hC.k 3 rfl | exact hC.k 6 rfl | exact hC.k 7 rfl | exact hR.1 | exact hR.2.2) (by omega) (by omega) (by omega) ?_
        refine VW.aload_n (pc' := 65) d_Trial_findAllReferred_64 rfl rfl ?_
        refine VW.gP (ci := 9) (T := T9) (N := 8) (k := 3) (k' := 3) (pc' := 68) d_Trial_findAllReferred_65 rfl lk_Trial_22 in9 rfl rfl rfl rfl (by first | exact hC.k 13 rfl | exact hC.k 14 rfl | exact hC.k 15 rfl | exact hC.k 16 rfl | exact hC.k 17 rfl | exact hC.k 18 rfl | exact hC.k 19 rfl | exact hC.k 20 rfl | exact hC.k 2 rfl | exact hC.k 3 rfl | exact hC.k 6 rfl | exact hC.k 7 rfl | exact hR.1 | exact hR.2.2) (by first | exact hC.p 22 rfl | exact hC.p 23 rfl | exact hC.p 24 rfl | exact hC.p 25 rfl | exact hC.p 26 rfl | exact hC.p 27 rfl | exact hC.p 28 rfl | exact hC.p 29 rfl | exact hC.p 9 rfl | exact hC.p 12 rfl | exact hC.p 13 rfl | exact hR.2.1 | exact hv26 | exact hv52 | rfl) ?_
        refine VW.iload_n (pc' := 69) d_Trial_findAllReferred_68 rfl rfl ?_
        refine VW.iconst (pc' := 70) d_Trial_findAllReferred_69 rfl (by decide) ?_
        refine VW.zast (pc' := 71) d_Trial_findAllReferred_70 rfl (by first | exact hC.k 13 rfl | exact hC.k 14 rfl | exact hC.k 15 rfl | exact hC.k 16 rfl | exact hC.k 17 rfl | exact hC.k 18 rfl | exact hC.k 19 rfl | exact hC.k 20 rfl | exact hC.k 2 rfl | exact hC.k 3 rfl | exact hC.k 6 rfl | exact hC.k 7 rfl | exact hR.1 | exact hR.2.2) (by omega) (by omega) (by omega) ?_
        refine VW.iinc (pc' := 74) d_Trial_findAllReferred_71 rfl rfl rfl (by omega) ?_
        refine VW.goto (pc' := 2) d_Trial_findAllReferred_74 rfl ?_
        refine VW.pick [0, 1, 2] ?_
        first | (rw [y1 c37] at nx; exact nx) | (rw [y2 c37] at nx; rw [ef]; exact nx)
      · refine VW.iconst (pc' := 41) d_Trial_findAllReferred_40 rfl (by decide) ?_
        refine VW.goto (pc' := 56) d_Trial_findAllReferred_41 rfl ?_
        refine VW.iast (pc' := 57) d_Trial_findAllReferred_56 rfl (by first | exact hC.k 13 rfl | exact hC.k 14 rfl | exact hC.k 15 rfl | exact hC.k 16 rfl | exact hC.k 17 rfl | exact hC.k 18 rfl | exact hC.k 19 rfl | exact hC.k 20 rfl | exact hC.k 2 rfl | exact hC.k 3 rfl | exact hC.k 6 rfl | exact hC.k 7 rfl | exact hR.1 | exact hR.2.2) (by omega) (by omega) ?_
        refine VW.aload_n (pc' := 58) d_Trial_findAllReferred_57 rfl rfl ?_
        refine VW.gP (ci := 9) (T := T9) (N := 8) (k := 2) (k' := 2) (pc' := 61) d_Trial_findAllReferred_58 rfl lk_Trial_18 in9 rfl rfl rfl rfl (by first | exact hC.k 13 rfl | exact hC.k 14 rfl | exact hC.k 15 rfl | exact hC.k 16 rfl | exact hC.k 17 rfl | exact hC.k 18 rfl | exact hC.k 19 rfl | exact hC.k 20 rfl | exact hC.k 2 rfl | exact hC.k 3 rfl | exact hC.k 6 rfl | exact hC.k 7 rfl | exact hR.1 | exact hR.2.2) (by first | exact hC.p 22 rfl | exact hC.p 23 rfl | exact hC.p 24 rfl | exact hC.p 25 rfl | exact hC.p 26 rfl | exact hC.p 27 rfl | exact hC.p 28 rfl | exact hC.p 29 rfl | exact hC.p 9 rfl | exact hC.p 12 rfl | exact hC.p 13 rfl | exact hR.2.1 | exact hv26 | exact hv52 | rfl) ?_
        refine VW.iload_n (pc' := 62) d_Trial_findAllReferred_61 rfl rfl ?_
        refine VW.iconst (pc' := 63) d_Trial_findAllReferred_62 rfl (by decide) ?_
        refine VW.zast (pc' := 64) d_Trial_findAllReferred_63 rfl (by first | exact hC.k 13 rfl | exact hC.k 14 rfl | exact hC.k 15 rfl | exact hC.k 16 rfl | exact hC.k 17 rfl | exact hC.k 18 rfl | exact hC.k 19 rfl | exact hC.k 20 rfl | exact hC.k 2 rfl | exact hC.k 3 rfl | exact hC.k 6 rfl | exact hC.k 7 rfl | exact hR.1 | exact hR.2.2) (by omega) (by omega) (by omega) ?_
        refine VW.aload_n (pc' := 65) d_Trial_findAllReferred_64 rfl rfl ?_
        refine VW.gP (ci := 9) (T := T9) (N := 8) (k := 3) (k' := 3) (pc' := 68) d_Trial_findAllReferred_65 rfl lk_Trial_22 in9 rfl rfl rfl rfl (by first | exact hC.k 13 rfl | exact hC.k 14 rfl | exact hC.k 15 rfl | exact hC.k 16 rfl | exact hC.k 17 rfl | exact hC.k 18 rfl | exact hC.k 19 rfl | exact hC.k 20 rfl | exact hC.k 2 rfl | exact hC.k 3 rfl | exact hC.k 6 rfl | exact hC.k 7 rfl | exact hR.1 | exact hR.2.2) (by first | exact hC.p 22 rfl | exact hC.p 23 rfl | exact hC.p 24 rfl | exact hC.p 25 rfl | exact hC.p 26 rfl | exact hC.p 27 rfl | exact hC.p 28 rfl | exact hC.p 29 rfl | exact hC.p 9 rfl | exact hC.p 12 rfl | exact hC.p 13 rfl | exact hR.2.1 | exact hv26 | exact hv52 | rfl) ?_
        refine VW.iload_n (pc' := 69) d_Trial_findAllReferred_68 rfl rfl ?_
        refine VW.iconst (pc' := 70) d_Trial_findAllReferred_69 rfl (by decide) ?_
        refine VW.zast (pc' := 71) d_Trial_findAllReferred_70 rfl (by first | exact hC.k 13 rfl | exact hC.k 14 rfl | exact hC.k 15 rfl | exact hC.k 16 rfl | exact hC.k 17 rfl | exact hC.k 18 rfl | exact hC.k 19 rfl | exact hC.k 20 rfl | exact hC.k 2 rfl | exact hC.k 3 rfl | exact hC.k 6 rfl | exact hC.k 7 rfl | exact hR.1 | exact hR.2.2) (by omega) (by omega) (by omega) ?_
        refine VW.iinc (pc' := 74) d_Trial_findAllReferred_71 rfl rfl rfl (by omega) ?_
        refine VW.goto (pc' := 2) d_Trial_findAllReferred_74 rfl ?_
        refine VW.pick [0, 1, 2] ?_
        first | (rw [y1 c37] at nx; exact nx) | (rw [y2 c37] at nx; rw [ef]; exact nx)
  have l9 := loop 192 0 (by omega) (Int.le_refl _)
  rw [faI_0] at l9
  clear loop
  refine VW.iconst (pc' := 1) d_Trial_findAllReferred_0 rfl (by decide) ?_
  refine VW.istore_n (pc' := 2) d_Trial_findAllReferred_1 rfl rfl ?_
  refine VW.pick [0, 1, 2] ?_
  exact l9
end
