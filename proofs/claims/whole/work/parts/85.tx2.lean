section
variable {K : KT} {P : PT} {J I : IT}
/-- what is to be written: a row, out of the array v -/
def txIn0 (I : IT) (x w v : Nat) (t k : Int) : IT := cpyI (filI (up2 (up2 I x 7 0) x 8 t) w 0 4 (-2147483648)) v 0 w 0 k
def txIns (I : IT) (x w v : Nat) (t k : Int) : IT := up2 (txIn0 I x w v t k) x 9 (txIn0 I x w v t k w 0)
theorem sp_Transaction_planInsert {x r w a b n f n2 : Nat} {v nv : Nat} {t z : Int} (hG : TxW K P x r w a b n f n2) (hv : K v = some (100, nv)) (hz : 0 ≤ z ∧ z ≤ nv ∧ z ≤ 4) : Sp m_Transaction_planInsert false (rmv 1 60) (ex K P J (txIns I x w v t z) (.inl none)) K P J I [vR (some x), vI t, vR (some v), vI z] := by
  refine Sp.ofV (by decide) (Or.inr rfl) rfl ?_
  refine VW.aload_n (pc' := 1) d_Transaction_planInsert_0 rfl rfl ?_
  refine VW.iconst (pc' := 2) d_Transaction_planInsert_1 rfl (by decide) ?_
  refine VW.pI (ci := 8) (T := T8) (N := 19) (k := 7) (k' := 7) (ty := ty8) (pc' := 5) d_Transaction_planInsert_2 rfl lk_Transaction_50 in8 tk8 nm8 rfl rfl rfl rfl rfl rfl (by first | exact hG.1 | exact hG.2.2.1.2 | exact hG.2.2.2.1.2 | exact hG.2.2.2.2.1.2 | exact hG.2.2.2.2.2.2) ?_
  refine VW.aload_n (pc' := 6) d_Transaction_planInsert_5 rfl rfl ?_
  refine VW.iload_n (pc' := 7) d_Transaction_planInsert_6 rfl rfl ?_
  refine VW.pI (ci := 8) (T := T8) (N := 19) (k := 8) (k' := 8) (ty := ty8) (pc' := 10) d_Transaction_planInsert_7 rfl lk_Transaction_53 in8 tk8 nm8 rfl rfl rfl rfl rfl rfl (by first | exact hG.1 | exact hG.2.2.1.2 | exact hG.2.2.2.1.2 | exact hG.2.2.2.2.1.2 | exact hG.2.2.2.2.2.2) ?_
  refine VW.aload_n (pc' := 11) d_Transaction_planInsert_10 rfl rfl ?_
  refine VW.gP (ci := 8) (T := T8) (N := 19) (k := 12) (k' := 12) (pc' := 14) d_Transaction_planInsert_11 rfl lk_Transaction_28 in8 rfl rfl rfl rfl (by first | exact hG.1 | exact hG.2.2.1.2 | exact hG.2.2.2.1.2 | exact hG.2.2.2.2.1.2 | exact hG.2.2.2.2.2.2) (by first | exact hG.2.1 | exact hG.2.2.1.1 | exact hG.2.2.2.1.1 | exact hG.2.2.2.2.1.1 | exact hG.2.2.2.2.2.1 | rfl) ?_
  refine VW.ldc (pc' := 16) (z := -2147483648) d_Transaction_planInsert_14 rfl lk_Transaction_56 (by decide) (by decide) ?_
  refine VW.cS (pc' := 19) d_Transaction_planInsert_16 rfl ms_java_util_Arrays_fill lk_Transaction_57 rfl rfl rfl (Nat.le_refl _) (Nat.le_refl _) (sp_fill hG.2.2.1.2 (by decide)) rfl rfl ?_
  refine VW.aload_n (pc' := 20) d_Transaction_planInsert_19 rfl rfl ?_
  refine VW.iconst (pc' := 21) d_Transaction_planInsert_20 rfl (by decide) ?_
  refine VW.aload_n (pc' := 22) d_Transaction_planInsert_21 rfl rfl ?_
  refine VW.gP (ci := 8) (T := T8) (N := 19) (k := 12) (k' := 12) (pc' := 25) d_Transaction_planInsert_22 rfl lk_Transaction_28 in8 rfl rfl rfl rfl (by first | exact hG.1 | exact hG.2.2.1.2 | exact hG.2.2.2.1.2 | exact hG.2.2.2.2.1.2 | exact hG.2.2.2.2.2.2) (by first | exact hG.2.1 | exact hG.2.2.1.1 | exact hG.2.2.2.1.1 | exact hG.2.2.2.2.1.1 | exact hG.2.2.2.2.2.1 | rfl) ?_
  refine VW.iconst (pc' := 26) d_Transaction_planInsert_25 rfl (by decide) ?_
  refine VW.iload_n (pc' := 27) d_Transaction_planInsert_26 rfl rfl ?_
  refine VW.copyi (pc' := 30) d_Transaction_planInsert_27 rfl lk_Transaction_63 hv hG.2.2.1.2 (by omega) (by omega) (by omega) (by omega) (by omega) rfl rfl ?_
  refine VW.aload_n (pc' := 31) d_Transaction_planInsert_30 rfl rfl ?_
  refine VW.aload_n (pc' := 32) d_Transaction_planInsert_31 rfl rfl ?_
  refine VW.gP (ci := 8) (T := T8) (N := 19) (k := 12) (k' := 12) (pc' := 35) d_Transaction_planInsert_32 rfl lk_Transaction_28 in8 rfl rfl rfl rfl (by first | exact hG.1 | exact hG.2.2.1.2 | exact hG.2.2.2.1.2 | exact hG.2.2.2.2.1.2 | exact hG.2.2.2.2.2.2) (by first | exact hG.2.1 | exact hG.2.2.1.1 | exact hG.2.2.2.1.1 | exact hG.2.2.2.2.1.1 | exact hG.2.2.2.2.2.1 | rfl) ?_
  refine VW.iconst (pc' := 36) d_Transaction_planInsert_35 rfl (by decide) ?_
  refine VW.ild (pc' := 37) d_Transaction_planInsert_36 rfl (by first | exact hG.1 | exact hG.2.2.1.2 | exact hG.2.2.2.1.2 | exact hG.2.2.2.2.1.2 | exact hG.2.2.2.2.2.2) (by omega) (by omega) (by first | exact hG.2.1 | exact hG.2.2.1.1 | exact hG.2.2.2.1.1 | exact hG.2.2.2.2.1.1 | exact hG.2.2.2.2.2.1 | rfl) ?_
  refine VW.pI (ci := 8) (T := T8) (N := 19) (k := 9) (k' := 9) (ty := ty8) (pc' := 40) d_Transaction_planInsert_37 rfl lk_Transaction_69 in8 tk8 nm8 rfl rfl rfl rfl rfl rfl (by first | exact hG.1 | exact hG.2.2.1.2 | exact hG.2.2.2.1.2 | exact hG.2.2.2.2.1.2 | exact hG.2.2.2.2.2.2) ?_
  exact VW.vret d_Transaction_planInsert_40 rfl (Nat.zero_le _) (Nat.zero_le _) ex_rf
end
