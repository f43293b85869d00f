section
variable {K : KT} {P : PT} {J I : IT}
theorem sp_F_isComparison {a : Int} : Sp m_F_isComparison false (rmv 0 0) (ex K P J I (.inl (some (vI (bI (0 ≤ a ∧ a ≤ 2)))))) K P J I [vI a] := by
  refine Sp.ofV (by decide) (Or.inr rfl) rfl ?_
  refine VW.iload_n (pc' := 1) d_F_isComparison_0 rfl rfl ?_
  refine VW.if_lt (tgt := 13) (pc' := 4) d_F_isComparison_1 rfl rfl (fun c1 => ?_) (fun c1 => ?_)
  · refine VW.iconst (pc' := 14) d_F_isComparison_13 rfl (by decide) ?_
    exact VW.iret d_F_isComparison_14 rfl rfl (Nat.zero_le _) (Nat.zero_le _) (by first | (rw [bI1 (by omega)]; exact ex_rf) | (rw [bI0 (by omega)]; exact ex_rf))
  · refine VW.iload_n (pc' := 5) d_F_isComparison_4 rfl rfl ?_
    refine VW.iconst (pc' := 6) d_F_isComparison_5 rfl (by decide) ?_
    refine VW.icmp_gt (tgt := 13) (pc' := 9) d_F_isComparison_6 rfl rfl (fun c6 => ?_) (fun c6 => ?_)
    · refine VW.iconst (pc' := 14) d_F_isComparison_13 rfl (by decide) ?_
      exact VW.iret d_F_isComparison_14 rfl rfl (Nat.zero_le _) (Nat.zero_le _) (by first | (rw [bI1 (by omega)]; exact ex_rf) | (rw [bI0 (by omega)]; exact ex_rf))
    · refine VW.iconst (pc' := 10) d_F_isComparison_9 rfl (by decide) ?_
      refine VW.goto (pc' := 14) d_F_isComparison_10 rfl ?_
      exact VW.iret d_F_isComparison_14 rfl rfl (Nat.zero_le _) (Nat.zero_le _) (by first | (rw [bI1 (by omega)]; exact ex_rf) | (rw [bI0 (by omega)]; exact ex_rf))
theorem sp_F_isNumber {a : Int} : Sp m_F_isNumber false (rmv 0 0) (ex K P J I (.inl (some (vI (bI (-1000 ≤ a ∧ a ≤ 1000)))))) K P J I [vI a] := by
  refine Sp.ofV (by decide) (Or.inr rfl) rfl ?_
  refine VW.iload_n (pc' := 1) d_F_isNumber_0 rfl rfl ?_
  refine VW.sipush (pc' := 4) d_F_isNumber_1 rfl (by decide) ?_
  refine VW.icmp_lt (tgt := 18) (pc' := 7) d_F_isNumber_4 rfl rfl (fun c4 => ?_) (fun c4 => ?_)
  · refine VW.iconst (pc' := 19) d_F_isNumber_18 rfl (by decide) ?_
    exact VW.iret d_F_isNumber_19 rfl rfl (Nat.zero_le _) (Nat.zero_le _) (by first | (rw [bI1 (by omega)]; exact ex_rf) | (rw [bI0 (by omega)]; exact ex_rf))
  · refine VW.iload_n (pc' := 8) d_F_isNumber_7 rfl rfl ?_
    refine VW.sipush (pc' := 11) d_F_isNumber_8 rfl (by decide) ?_
    refine VW.icmp_gt (tgt := 18) (pc' := 14) d_F_isNumber_11 rfl rfl (fun c11 => ?_) (fun c11 => ?_)
    · refine VW.iconst (pc' := 19) d_F_isNumber_18 rfl (by decide) ?_
      exact VW.iret d_F_isNumber_19 rfl rfl (Nat.zero_le _) (Nat.zero_le _) (by first | (rw [bI1 (by omega)]; exact ex_rf) | (rw [bI0 (by omega)]; exact ex_rf))
    · refine VW.iconst (pc' := 15) d_F_isNumber_14 rfl (by decide) ?_
      refine VW.goto (pc' := 19) d_F_isNumber_15 rfl ?_
      exact VW.iret d_F_isNumber_19 rfl rfl (Nat.zero_le _) (Nat.zero_le _) (by first | (rw [bI1 (by omega)]; exact ex_rf) | (rw [bI0 (by omega)]; exact ex_rf))
theorem sp_F_compared {a h b : Int} : Sp m_F_compared false (rmv 1 21) (ex K P J I (.inl (some (vI (cmp3 a h b))))) K P J I [vI a, vI h, vI b] := by
  refine Sp.ofV (by decide) (Or.inr rfl) rfl ?_
  have f : ∀ (p : Prop) (v : Int), ¬ (a = -2147483648 ∨ b = -2147483648) → cmp3 a h b = bI p → (v = 1 ∧ p ∨ v = 0 ∧ ¬ p) → cmp3 a h b = v := fun p v _ e w => by
    rcases w with ⟨w1, w2⟩ | ⟨w1, w2⟩
    · rw [e, bI1 w2, w1]
    · rw [e, bI0 w2, w1]
  have cl : cmpI a b < 0 ↔ a < b := by unfold cmpI; (repeat' split) <;> omega
  have cs : cmpI a b = 0 ↔ a = b := by unfold cmpI; (repeat' split) <;> omega
  refine VW.iload_n (pc' := 1) d_F_compared_0 rfl rfl ?_
  refine VW.ldc (pc' := 3) (z := -2147483648) d_F_compared_1 rfl lk_F_153 (by decide) (by decide) ?_
  refine VW.icmp_eq (tgt := 12) (pc' := 6) d_F_compared_3 rfl rfl (fun c3 => ?_) (fun c3 => ?_)
  · refine VW.iconst (pc' := 13) d_F_compared_12 rfl (by decide) ?_
    exact VW.iret d_F_compared_13 rfl rfl (Nat.zero_le _) (Nat.zero_le _) (ex_v (cmp3_n (by omega)))
  · refine VW.iload_n (pc' := 7) d_F_compared_6 rfl rfl ?_
    refine VW.ldc (pc' := 9) (z := -2147483648) d_F_compared_7 rfl lk_F_153 (by decide) (by decide) ?_
    refine VW.icmp_ne (tgt := 14) (pc' := 12) d_F_compared_9 rfl rfl (fun c9 => ?_) (fun c9 => ?_)
    · refine VW.iload_n (pc' := 15) d_F_compared_14 rfl rfl ?_
      refine VW.iload_n (pc' := 16) d_F_compared_15 rfl rfl ?_
      refine VW.cS (pc' := 19) d_F_compared_16 rfl ms_java_lang_Integer_compare lk_F_363 rfl rfl rfl (Nat.le_refl _) (Nat.le_refl _) (sp_compare) rfl rfl ?_
      refine VW.istore_n (pc' := 20) d_F_compared_19 rfl rfl ?_
      refine VW.iload_n (pc' := 21) d_F_compared_20 rfl rfl ?_
      refine VW.if_ne (tgt := 36) (pc' := 24) d_F_compared_21 rfl rfl (fun c21 => ?_) (fun c21 => ?_)
      · try have e21 := bIn c21
        refine VW.iload_n (pc' := 37) d_F_compared_36 rfl rfl ?_
        refine VW.iconst (pc' := 38) d_F_compared_37 rfl (by decide) ?_
        refine VW.icmp_ne (tgt := 53) (pc' := 41) d_F_compared_38 rfl rfl (fun c38 => ?_) (fun c38 => ?_)
        · refine VW.iload_n (pc' := 54) d_F_compared_53 rfl rfl ?_
          refine VW.if_le (tgt := 61) (pc' := 57) d_F_compared_54 rfl rfl (fun c54 => ?_) (fun c54 => ?_)
          · refine VW.iconst (pc' := 62) d_F_compared_61 rfl (by decide) ?_
            refine VW.istore (pc' := 64) d_F_compared_62 rfl rfl ?_
            refine VW.iload (pc' := 66) d_F_compared_64 rfl rfl ?_
            refine VW.if_eq (tgt := 73) (pc' := 69) d_F_compared_66 rfl rfl (fun _ => ?_) (fun c66 => absurd c66 (by decide))
            refine VW.iconst (pc' := 74) d_F_compared_73 rfl (by decide) ?_
            exact VW.iret d_F_compared_74 rfl rfl (Nat.zero_le _) (Nat.zero_le _) (by first | exact ex_v (f _ _ (by omega) (cmp3_l (by omega) (by omega)) (by omega)) | exact ex_v (f _ _ (by omega) (cmp3_s (by omega) (by omega)) (by omega)) | exact ex_v (f _ _ (by omega) (cmp3_m (by omega) (by omega) (by omega)) (by omega)))
          · refine VW.iconst (pc' := 58) d_F_compared_57 rfl (by decide) ?_
            refine VW.goto (pc' := 62) d_F_compared_58 rfl ?_
            refine VW.istore (pc' := 64) d_F_compared_62 rfl rfl ?_
            refine VW.iload (pc' := 66) d_F_compared_64 rfl rfl ?_
            refine VW.if_eq (tgt := 73) (pc' := 69) d_F_compared_66 rfl rfl (fun c66 => absurd c66 (by decide)) (fun _ => ?_)
            refine VW.iconst (pc' := 70) d_F_compared_69 rfl (by decide) ?_
            refine VW.goto (pc' := 74) d_F_compared_70 rfl ?_
            exact VW.iret d_F_compared_74 rfl rfl (Nat.zero_le _) (Nat.zero_le _) (by first | exact ex_v (f _ _ (by omega) (cmp3_l (by omega) (by omega)) (by omega)) | exact ex_v (f _ _ (by omega) (cmp3_s (by omega) (by omega)) (by omega)) | exact ex_v (f _ _ (by omega) (cmp3_m (by omega) (by omega) (by omega)) (by omega)))
        · refine VW.iload_n (pc' := 42) d_F_compared_41 rfl rfl ?_
          refine VW.if_ne (tgt := 49) (pc' := 45) d_F_compared_42 rfl rfl (fun c42 => ?_) (fun c42 => ?_)
          · try have e42 := bIn c42
            refine VW.iconst (pc' := 50) d_F_compared_49 rfl (by decide) ?_
            refine VW.goto (pc' := 62) d_F_compared_50 rfl ?_
            refine VW.istore (pc' := 64) d_F_compared_62 rfl rfl ?_
            refine VW.iload (pc' := 66) d_F_compared_64 rfl rfl ?_
            refine VW.if_eq (tgt := 73) (pc' := 69) d_F_compared_66 rfl rfl (fun _ => ?_) (fun c66 => absurd c66 (by decide))
            refine VW.iconst (pc' := 74) d_F_compared_73 rfl (by decide) ?_
            exact VW.iret d_F_compared_74 rfl rfl (Nat.zero_le _) (Nat.zero_le _) (by first | exact ex_v (f _ _ (by omega) (cmp3_l (by omega) (by omega)) (by omega)) | exact ex_v (f _ _ (by omega) (cmp3_s (by omega) (by omega)) (by omega)) | exact ex_v (f _ _ (by omega) (cmp3_m (by omega) (by omega) (by omega)) (by omega)))
          · try have e42 := bIe c42
            refine VW.iconst (pc' := 46) d_F_compared_45 rfl (by decide) ?_
            refine VW.goto (pc' := 62) d_F_compared_46 rfl ?_
            refine VW.istore (pc' := 64) d_F_compared_62 rfl rfl ?_
            refine VW.iload (pc' := 66) d_F_compared_64 rfl rfl ?_
            refine VW.if_eq (tgt := 73) (pc' := 69) d_F_compared_66 rfl rfl (fun c66 => absurd c66 (by decide)) (fun _ => ?_)
            refine VW.iconst (pc' := 70) d_F_compared_69 rfl (by decide) ?_
            refine VW.goto (pc' := 74) d_F_compared_70 rfl ?_
            exact VW.iret d_F_compared_74 rfl rfl (Nat.zero_le _) (Nat.zero_le _) (by first | exact ex_v (f _ _ (by omega) (cmp3_l (by omega) (by omega)) (by omega)) | exact ex_v (f _ _ (by omega) (cmp3_s (by omega) (by omega)) (by omega)) | exact ex_v (f _ _ (by omega) (cmp3_m (by omega) (by omega) (by omega)) (by omega)))
      · try have e21 := bIe c21
        refine VW.iload_n (pc' := 25) d_F_compared_24 rfl rfl ?_
        refine VW.if_ge (tgt := 32) (pc' := 28) d_F_compared_25 rfl rfl (fun c25 => ?_) (fun c25 => ?_)
        · refine VW.iconst (pc' := 33) d_F_compared_32 rfl (by decide) ?_
          refine VW.goto (pc' := 62) d_F_compared_33 rfl ?_
          refine VW.istore (pc' := 64) d_F_compared_62 rfl rfl ?_
          refine VW.iload (pc' := 66) d_F_compared_64 rfl rfl ?_
          refine VW.if_eq (tgt := 73) (pc' := 69) d_F_compared_66 rfl rfl (fun _ => ?_) (fun c66 => absurd c66 (by decide))
          refine VW.iconst (pc' := 74) d_F_compared_73 rfl (by decide) ?_
          exact VW.iret d_F_compared_74 rfl rfl (Nat.zero_le _) (Nat.zero_le _) (by first | exact ex_v (f _ _ (by omega) (cmp3_l (by omega) (by omega)) (by omega)) | exact ex_v (f _ _ (by omega) (cmp3_s (by omega) (by omega)) (by omega)) | exact ex_v (f _ _ (by omega) (cmp3_m (by omega) (by omega) (by omega)) (by omega)))
        · refine VW.iconst (pc' := 29) d_F_compared_28 rfl (by decide) ?_
          refine VW.goto (pc' := 62) d_F_compared_29 rfl ?_
          refine VW.istore (pc' := 64) d_F_compared_62 rfl rfl ?_
          refine VW.iload (pc' := 66) d_F_compared_64 rfl rfl ?_
          refine VW.if_eq (tgt := 73) (pc' := 69) d_F_compared_66 rfl rfl (fun c66 => absurd c66 (by decide)) (fun _ => ?_)
          refine VW.iconst (pc' := 70) d_F_compared_69 rfl (by decide) ?_
          refine VW.goto (pc' := 74) d_F_compared_70 rfl ?_
          exact VW.iret d_F_compared_74 rfl rfl (Nat.zero_le _) (Nat.zero_le _) (by first | exact ex_v (f _ _ (by omega) (cmp3_l (by omega) (by omega)) (by omega)) | exact ex_v (f _ _ (by omega) (cmp3_s (by omega) (by omega)) (by omega)) | exact ex_v (f _ _ (by omega) (cmp3_m (by omega) (by omega) (by omega)) (by omega)))
    · refine VW.iconst (pc' := 13) d_F_compared_12 rfl (by decide) ?_
      exact VW.iret d_F_compared_13 rfl rfl (Nat.zero_le _) (Nat.zero_le _) (ex_v (cmp3_n (by omega)))
end
