section
variable {K : KT} {P : PT} {J I : IT}
theorem sp_Schema_addCheck {s w c d t r v : Nat} {a b e f : Int} (hG : ScW K P s w c d t r v) (hcd : c ≠ d) (ha : 0 ≤ a ∧ a < 6) (h6 : 0 ≤ I c a ∧ I c a < 4) : Sp m_Schema_addCheck false (rmv 0 0) (ex K P J (up2 (up2 (up2 (up2 I d ((a * 4 + I c a) * 3) b) d (((a * 4 + I c a) * 3) + 1) e) d (((a * 4 + I c a) * 3) + 2) f) c a (I c a + 1)) (.inl (some (vI (I c a + 1))))) K P J I [vR (some s), vI a, vI b, vI e, vI f] := by
  refine Sp.ofV (by decide) (Or.inr rfl) rfl ?_
  refine VW.iload_n (pc' := 1) d_Schema_addCheck_0 rfl rfl ?_
  refine VW.iconst (pc' := 2) d_Schema_addCheck_1 rfl (by decide) ?_
  refine VW.imul (pc' := 3) d_Schema_addCheck_2 rfl (by omega) ?_
  refine VW.aload_n (pc' := 4) d_Schema_addCheck_3 rfl rfl ?_
  refine VW.gP (ci := 7) (T := T7) (N := 8) (k := 2) (k' := 2) (pc' := 7) d_Schema_addCheck_4 rfl lk_Schema_15 in7 rfl rfl rfl rfl (by first | exact hG.1 | exact hG.2.1.2 | exact hG.2.2.1.2 | exact hG.2.2.2.1.2 | exact hG.2.2.2.2.1.2 | exact hG.2.2.2.2.2.1.2 | exact hG.2.2.2.2.2.2.2) (by first | exact hG.2.1.1 | exact hG.2.2.1.1 | exact hG.2.2.2.1.1 | exact hG.2.2.2.2.1.1 | exact hG.2.2.2.2.2.1.1 | exact hG.2.2.2.2.2.2.1 | rfl) ?_
  refine VW.iload_n (pc' := 8) d_Schema_addCheck_7 rfl rfl ?_
  refine VW.ild (pc' := 9) d_Schema_addCheck_8 rfl (by first | exact hG.1 | exact hG.2.1.2 | exact hG.2.2.1.2 | exact hG.2.2.2.1.2 | exact hG.2.2.2.2.1.2 | exact hG.2.2.2.2.2.1.2 | exact hG.2.2.2.2.2.2.2) (by omega) (by omega) (by first | exact hG.2.1.1 | exact hG.2.2.1.1 | exact hG.2.2.2.1.1 | exact hG.2.2.2.2.1.1 | exact hG.2.2.2.2.2.1.1 | exact hG.2.2.2.2.2.2.1 | rfl) ?_
  refine VW.iadd (pc' := 10) d_Schema_addCheck_9 rfl (by omega) ?_
  refine VW.iconst (pc' := 11) d_Schema_addCheck_10 rfl (by decide) ?_
  refine VW.imul (pc' := 12) d_Schema_addCheck_11 rfl (by omega) ?_
  refine VW.istore (pc' := 14) d_Schema_addCheck_12 rfl rfl ?_
  refine VW.aload_n (pc' := 15) d_Schema_addCheck_14 rfl rfl ?_
  refine VW.gP (ci := 7) (T := T7) (N := 8) (k := 3) (k' := 3) (pc' := 18) d_Schema_addCheck_15 rfl lk_Schema_18 in7 rfl rfl rfl rfl (by first | exact hG.1 | exact hG.2.1.2 | exact hG.2.2.1.2 | exact hG.2.2.2.1.2 | exact hG.2.2.2.2.1.2 | exact hG.2.2.2.2.2.1.2 | exact hG.2.2.2.2.2.2.2) (by first | exact hG.2.1.1 | exact hG.2.2.1.1 | exact hG.2.2.2.1.1 | exact hG.2.2.2.2.1.1 | exact hG.2.2.2.2.2.1.1 | exact hG.2.2.2.2.2.2.1 | rfl) ?_
  refine VW.iload (pc' := 20) d_Schema_addCheck_18 rfl rfl ?_
  refine VW.iload_n (pc' := 21) d_Schema_addCheck_20 rfl rfl ?_
  refine VW.iast (pc' := 22) d_Schema_addCheck_21 rfl (by first | exact hG.1 | exact hG.2.1.2 | exact hG.2.2.1.2 | exact hG.2.2.2.1.2 | exact hG.2.2.2.2.1.2 | exact hG.2.2.2.2.2.1.2 | exact hG.2.2.2.2.2.2.2) (by omega) (by omega) ?_
  refine VW.aload_n (pc' := 23) d_Schema_addCheck_22 rfl rfl ?_
  refine VW.gP (ci := 7) (T := T7) (N := 8) (k := 3) (k' := 3) (pc' := 26) d_Schema_addCheck_23 rfl lk_Schema_18 in7 rfl rfl rfl rfl (by first | exact hG.1 | exact hG.2.1.2 | exact hG.2.2.1.2 | exact hG.2.2.2.1.2 | exact hG.2.2.2.2.1.2 | exact hG.2.2.2.2.2.1.2 | exact hG.2.2.2.2.2.2.2) (by first | exact hG.2.1.1 | exact hG.2.2.1.1 | exact hG.2.2.2.1.1 | exact hG.2.2.2.2.1.1 | exact hG.2.2.2.2.2.1.1 | exact hG.2.2.2.2.2.2.1 | rfl) ?_
  refine VW.iload (pc' := 28) d_Schema_addCheck_26 rfl rfl ?_
  refine VW.iconst (pc' := 29) d_Schema_addCheck_28 rfl (by decide) ?_
  refine VW.iadd (pc' := 30) d_Schema_addCheck_29 rfl (by omega) ?_
  refine VW.iload_n (pc' := 31) d_Schema_addCheck_30 rfl rfl ?_
  refine VW.iast (pc' := 32) d_Schema_addCheck_31 rfl (by first | exact hG.1 | exact hG.2.1.2 | exact hG.2.2.1.2 | exact hG.2.2.2.1.2 | exact hG.2.2.2.2.1.2 | exact hG.2.2.2.2.2.1.2 | exact hG.2.2.2.2.2.2.2) (by omega) (by omega) ?_
  refine VW.aload_n (pc' := 33) d_Schema_addCheck_32 rfl rfl ?_
  refine VW.gP (ci := 7) (T := T7) (N := 8) (k := 3) (k' := 3) (pc' := 36) d_Schema_addCheck_33 rfl lk_Schema_18 in7 rfl rfl rfl rfl (by first | exact hG.1 | exact hG.2.1.2 | exact hG.2.2.1.2 | exact hG.2.2.2.1.2 | exact hG.2.2.2.2.1.2 | exact hG.2.2.2.2.2.1.2 | exact hG.2.2.2.2.2.2.2) (by first | exact hG.2.1.1 | exact hG.2.2.1.1 | exact hG.2.2.2.1.1 | exact hG.2.2.2.2.1.1 | exact hG.2.2.2.2.2.1.1 | exact hG.2.2.2.2.2.2.1 | rfl) ?_
  refine VW.iload (pc' := 38) d_Schema_addCheck_36 rfl rfl ?_
  refine VW.iconst (pc' := 39) d_Schema_addCheck_38 rfl (by decide) ?_
  refine VW.iadd (pc' := 40) d_Schema_addCheck_39 rfl (by omega) ?_
  refine VW.iload (pc' := 42) d_Schema_addCheck_40 rfl rfl ?_
  refine VW.iast (pc' := 43) d_Schema_addCheck_42 rfl (by first | exact hG.1 | exact hG.2.1.2 | exact hG.2.2.1.2 | exact hG.2.2.2.1.2 | exact hG.2.2.2.2.1.2 | exact hG.2.2.2.2.2.1.2 | exact hG.2.2.2.2.2.2.2) (by omega) (by omega) ?_
  refine VW.aload_n (pc' := 44) d_Schema_addCheck_43 rfl rfl ?_
  refine VW.gP (ci := 7) (T := T7) (N := 8) (k := 2) (k' := 2) (pc' := 47) d_Schema_addCheck_44 rfl lk_Schema_15 in7 rfl rfl rfl rfl (by first | exact hG.1 | exact hG.2.1.2 | exact hG.2.2.1.2 | exact hG.2.2.2.1.2 | exact hG.2.2.2.2.1.2 | exact hG.2.2.2.2.2.1.2 | exact hG.2.2.2.2.2.2.2) (by first | exact hG.2.1.1 | exact hG.2.2.1.1 | exact hG.2.2.2.1.1 | exact hG.2.2.2.2.1.1 | exact hG.2.2.2.2.2.1.1 | exact hG.2.2.2.2.2.2.1 | rfl) ?_
  refine VW.iload_n (pc' := 48) d_Schema_addCheck_47 rfl rfl ?_
  refine VW.dup2 (pc' := 49) d_Schema_addCheck_48 rfl rfl rfl ?_
  refine VW.ild (pc' := 50) d_Schema_addCheck_49 rfl (by first | exact hG.1 | exact hG.2.1.2 | exact hG.2.2.1.2 | exact hG.2.2.2.1.2 | exact hG.2.2.2.2.1.2 | exact hG.2.2.2.2.2.1.2 | exact hG.2.2.2.2.2.2.2) (by omega) (by omega) ((up2_o _ _ _ _ hcd).trans ((up2_o _ _ _ _ hcd).trans (up2_o _ _ _ _ hcd))) ?_
  refine VW.iconst (pc' := 51) d_Schema_addCheck_50 rfl (by decide) ?_
  refine VW.iadd (pc' := 52) d_Schema_addCheck_51 rfl (by omega) ?_
  refine VW.iast (pc' := 53) d_Schema_addCheck_52 rfl (by first | exact hG.1 | exact hG.2.1.2 | exact hG.2.2.1.2 | exact hG.2.2.2.1.2 | exact hG.2.2.2.2.1.2 | exact hG.2.2.2.2.2.1.2 | exact hG.2.2.2.2.2.2.2) (by omega) (by omega) ?_
  refine VW.aload_n (pc' := 54) d_Schema_addCheck_53 rfl rfl ?_
  refine VW.gP (ci := 7) (T := T7) (N := 8) (k := 2) (k' := 2) (pc' := 57) d_Schema_addCheck_54 rfl lk_Schema_15 in7 rfl rfl rfl rfl (by first | exact hG.1 | exact hG.2.1.2 | exact hG.2.2.1.2 | exact hG.2.2.2.1.2 | exact hG.2.2.2.2.1.2 | exact hG.2.2.2.2.2.1.2 | exact hG.2.2.2.2.2.2.2) (by first | exact hG.2.1.1 | exact hG.2.2.1.1 | exact hG.2.2.2.1.1 | exact hG.2.2.2.2.1.1 | exact hG.2.2.2.2.2.1.1 | exact hG.2.2.2.2.2.2.1 | rfl) ?_
  refine VW.iload_n (pc' := 58) d_Schema_addCheck_57 rfl rfl ?_
  refine VW.ild (pc' := 59) d_Schema_addCheck_58 rfl (by first | exact hG.1 | exact hG.2.1.2 | exact hG.2.2.1.2 | exact hG.2.2.2.1.2 | exact hG.2.2.2.2.1.2 | exact hG.2.2.2.2.2.1.2 | exact hG.2.2.2.2.2.2.2) (by omega) (by omega) (up2_eq _ _ _ _) ?_
  exact VW.iret d_Schema_addCheck_59 rfl rfl (Nat.zero_le _) (Nat.zero_le _) ex_rf
end
