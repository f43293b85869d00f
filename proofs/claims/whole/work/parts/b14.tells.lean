/-! value, and the calls that only tell -/
section
variable {K : KT} {P : PT} {J I : IT} {n lq i : Nat} {lv mv : Nat → Nat} {a t y c v : Int}
theorem value_run (hC : ClW K P) (hv : okV v) (h9 : 0 ≤ I 1000 9 ∧ I 1000 9 < 4) : Sp m_F_value true ({ frames := 12, cells := 0, slots := 0, locals := 400 } : Room) (ex K P J (up2 (up2 I 1009 (I 1000 9) v) 1000 9 (I 1000 9 + 1)) (.inl (some (vI (I 1000 9 + 1))))) K P J I [vR (some 1000), vI v] := by
  have e9 : up2 I 1009 (I 1000 9) v 1000 9 = I 1000 9 := up2_o _ _ _ _ (by decide)
  have e10 : up2 (up2 I 1009 (I 1000 9) v) 1000 9 (I 1000 9 + 1) 1000 9 = I 1000 9 + 1 := up2_eq _ _ _ _
  refine Sp.ofV (by decide) (Or.inl rfl) rfl ?_
  refine VW.iload_n (pc' := 1) d_F_value_0 rfl rfl ?_
  refine VW.cS (pc' := 4) d_F_value_1 rfl ms_F_isNumber lk_F_104 rfl rfl rfl (by decide) (by decide) (sp_F_isNumber) rfl rfl ?_
  refine VW.if_ne (tgt := 13) (pc' := 7) d_F_value_4 rfl rfl (fun c4 => ?_) (fun c4 => ?_)
  · try have e4 := bIn c4
    refine VW.iconst (pc' := 14) d_F_value_13 rfl (by decide) ?_
    refine VW.goto (pc' := 18) d_F_value_14 rfl ?_
    refine VW.callSX (pc' := 21) d_F_value_18 rfl (sp_F_demandRange1 (by decide)) rfl ms_F_demandRange.1 ms_F_demandRange.2.1 rfl ms_F_demandRange.2.2 lk_F_70 rfl rfl rfl (by decide) (by decide) (fun _ _ _ _ _ hz => by cases hz.1) (fun r _ _ _ _ hz => ?_)
    obtain ⟨z1, z2, z3, z4, z5⟩ := hz
    cases z1
    replace z2 := z2.symm; replace z3 := z3.symm; replace z4 := z4.symm; replace z5 := z5.symm
    subst z2; subst z3; subst z4; subst z5
    refine VW.aload_n (pc' := 22) d_F_value_21 rfl rfl ?_
    refine VW.gI (ci := 10) (T := T10) (N := 11) (k := 9) (k' := 9) (pc' := 25) d_F_value_22 rfl lk_F_154 in10 rfl rfl rfl rfl (by first | exact hC.k 0 rfl | exact hC.k 9 rfl | exact hC.k 2 rfl | exact hC.k 3 rfl | exact hC.k 1 rfl | exact hx | exact hr | exact hG.1 | exact hC.st.1) (by first | exact hC.p 1 rfl | exact hC.p 0 rfl | exact hC.p 9 rfl | exact hC.p 8 rfl | exact hC.p 16 rfl | exact hC.p 18 rfl | exact hpr | exact e9 | exact e10 | rfl) ?_
    refine VW.iconst (pc' := 26) d_F_value_25 rfl (by decide) ?_
    refine VW.icmp_ge (tgt := 33) (pc' := 29) d_F_value_26 rfl rfl (fun c26 => ?_) (fun c26 => ?_)
    case refine_1 => exact absurd c26 (by omega)
    refine VW.iconst (pc' := 30) d_F_value_29 rfl (by decide) ?_
    refine VW.goto (pc' := 34) d_F_value_30 rfl ?_
    refine VW.callSX (pc' := 37) d_F_value_34 rfl (sp_F_demandState1 (by decide)) rfl ms_F_demandState.1 ms_F_demandState.2.1 rfl ms_F_demandState.2.2 lk_F_82 rfl rfl rfl (by decide) (by decide) (fun _ _ _ _ _ hz => by cases hz.1) (fun r _ _ _ _ hz => ?_)
    obtain ⟨z1, z2, z3, z4, z5⟩ := hz
    cases z1
    replace z2 := z2.symm; replace z3 := z3.symm; replace z4 := z4.symm; replace z5 := z5.symm
    subst z2; subst z3; subst z4; subst z5
    refine VW.aload_n (pc' := 38) d_F_value_37 rfl rfl ?_
    refine VW.gP (ci := 10) (T := T10) (N := 11) (k := 8) (k' := 8) (pc' := 41) d_F_value_38 rfl lk_F_59 in10 rfl rfl rfl rfl (by first | exact hC.k 0 rfl | exact hC.k 9 rfl | exact hC.k 2 rfl | exact hC.k 3 rfl | exact hC.k 1 rfl | exact hx | exact hr | exact hG.1 | exact hC.st.1) (by first | exact hC.p 1 rfl | exact hC.p 0 rfl | exact hC.p 9 rfl | exact hC.p 8 rfl | exact hC.p 16 rfl | exact hC.p 18 rfl | exact hpr | exact e9 | exact e10 | rfl) ?_
    refine VW.aload_n (pc' := 42) d_F_value_41 rfl rfl ?_
    refine VW.gI (ci := 10) (T := T10) (N := 11) (k := 9) (k' := 9) (pc' := 45) d_F_value_42 rfl lk_F_154 in10 rfl rfl rfl rfl (by first | exact hC.k 0 rfl | exact hC.k 9 rfl | exact hC.k 2 rfl | exact hC.k 3 rfl | exact hC.k 1 rfl | exact hx | exact hr | exact hG.1 | exact hC.st.1) (by first | exact hC.p 1 rfl | exact hC.p 0 rfl | exact hC.p 9 rfl | exact hC.p 8 rfl | exact hC.p 16 rfl | exact hC.p 18 rfl | exact hpr | exact e9 | exact e10 | rfl) ?_
    refine VW.iload_n (pc' := 46) d_F_value_45 rfl rfl ?_
    refine VW.iast (pc' := 47) d_F_value_46 rfl (by first | exact hC.k 0 rfl | exact hC.k 9 rfl | exact hC.k 2 rfl | exact hC.k 3 rfl | exact hC.k 1 rfl | exact hx | exact hr | exact hG.1 | exact hC.st.1) (by omega) (by omega) ?_
    refine VW.aload_n (pc' := 48) d_F_value_47 rfl rfl ?_
    refine VW.dup (pc' := 49) d_F_value_48 rfl rfl ?_
    refine VW.gI (ci := 10) (T := T10) (N := 11) (k := 9) (k' := 9) (pc' := 52) d_F_value_49 rfl lk_F_154 in10 rfl rfl rfl rfl (by first | exact hC.k 0 rfl | exact hC.k 9 rfl | exact hC.k 2 rfl | exact hC.k 3 rfl | exact hC.k 1 rfl | exact hx | exact hr | exact hG.1 | exact hC.st.1) (by first | exact hC.p 1 rfl | exact hC.p 0 rfl | exact hC.p 9 rfl | exact hC.p 8 rfl | exact hC.p 16 rfl | exact hC.p 18 rfl | exact hpr | exact e9 | exact e10 | rfl) ?_
    refine VW.iconst (pc' := 53) d_F_value_52 rfl (by decide) ?_
    refine VW.iadd (pc' := 54) d_F_value_53 rfl (by omega) ?_
    refine VW.pI (ci := 10) (T := T10) (N := 11) (k := 9) (k' := 9) (ty := ty10) (pc' := 57) d_F_value_54 rfl lk_F_154 in10 tk10 nm10 rfl rfl rfl rfl rfl rfl (by first | exact hC.k 0 rfl | exact hC.k 9 rfl | exact hC.k 2 rfl | exact hC.k 3 rfl | exact hC.k 1 rfl | exact hx | exact hr | exact hG.1 | exact hC.st.1) ?_
    refine VW.aload_n (pc' := 58) d_F_value_57 rfl rfl ?_
    refine VW.gI (ci := 10) (T := T10) (N := 11) (k := 9) (k' := 9) (pc' := 61) d_F_value_58 rfl lk_F_154 in10 rfl rfl rfl rfl (by first | exact hC.k 0 rfl | exact hC.k 9 rfl | exact hC.k 2 rfl | exact hC.k 3 rfl | exact hC.k 1 rfl | exact hx | exact hr | exact hG.1 | exact hC.st.1) (by first | exact hC.p 1 rfl | exact hC.p 0 rfl | exact hC.p 9 rfl | exact hC.p 8 rfl | exact hC.p 16 rfl | exact hC.p 18 rfl | exact hpr | exact e9 | exact e10 | rfl) ?_
    exact VW.iret d_F_value_61 rfl rfl (by decide) (by decide) ex_rf
  · try have e4 := bIe c4
    refine VW.iload_n (pc' := 8) d_F_value_7 rfl rfl ?_
    refine VW.ldc (pc' := 10) (z := -2147483648) d_F_value_8 rfl lk_F_153 (by decide) (by decide) ?_
    refine VW.icmp_ne (tgt := 17) (pc' := 13) d_F_value_10 rfl rfl (fun c10 => ?_) (fun c10 => ?_)
    case refine_1 => exact absurd c10 (fun w => w (hv.resolve_right e4))
    refine VW.iconst (pc' := 14) d_F_value_13 rfl (by decide) ?_
    refine VW.goto (pc' := 18) d_F_value_14 rfl ?_
    refine VW.callSX (pc' := 21) d_F_value_18 rfl (sp_F_demandRange1 (by decide)) rfl ms_F_demandRange.1 ms_F_demandRange.2.1 rfl ms_F_demandRange.2.2 lk_F_70 rfl rfl rfl (by decide) (by decide) (fun _ _ _ _ _ hz => by cases hz.1) (fun r _ _ _ _ hz => ?_)
    obtain ⟨z1, z2, z3, z4, z5⟩ := hz
    cases z1
    replace z2 := z2.symm; replace z3 := z3.symm; replace z4 := z4.symm; replace z5 := z5.symm
    subst z2; subst z3; subst z4; subst z5
    refine VW.aload_n (pc' := 22) d_F_value_21 rfl rfl ?_
    refine VW.gI (ci := 10) (T := T10) (N := 11) (k := 9) (k' := 9) (pc' := 25) d_F_value_22 rfl lk_F_154 in10 rfl rfl rfl rfl (by first | exact hC.k 0 rfl | exact hC.k 9 rfl | exact hC.k 2 rfl | exact hC.k 3 rfl | exact hC.k 1 rfl | exact hx | exact hr | exact hG.1 | exact hC.st.1) (by first | exact hC.p 1 rfl | exact hC.p 0 rfl | exact hC.p 9 rfl | exact hC.p 8 rfl | exact hC.p 16 rfl | exact hC.p 18 rfl | exact hpr | exact e9 | exact e10 | rfl) ?_
    refine VW.iconst (pc' := 26) d_F_value_25 rfl (by decide) ?_
    refine VW.icmp_ge (tgt := 33) (pc' := 29) d_F_value_26 rfl rfl (fun c26 => ?_) (fun c26 => ?_)
    case refine_1 => exact absurd c26 (by omega)
    refine VW.iconst (pc' := 30) d_F_value_29 rfl (by decide) ?_
    refine VW.goto (pc' := 34) d_F_value_30 rfl ?_
    refine VW.callSX (pc' := 37) d_F_value_34 rfl (sp_F_demandState1 (by decide)) rfl ms_F_demandState.1 ms_F_demandState.2.1 rfl ms_F_demandState.2.2 lk_F_82 rfl rfl rfl (by decide) (by decide) (fun _ _ _ _ _ hz => by cases hz.1) (fun r _ _ _ _ hz => ?_)
    obtain ⟨z1, z2, z3, z4, z5⟩ := hz
    cases z1
    replace z2 := z2.symm; replace z3 := z3.symm; replace z4 := z4.symm; replace z5 := z5.symm
    subst z2; subst z3; subst z4; subst z5
    refine VW.aload_n (pc' := 38) d_F_value_37 rfl rfl ?_
    refine VW.gP (ci := 10) (T := T10) (N := 11) (k := 8) (k' := 8) (pc' := 41) d_F_value_38 rfl lk_F_59 in10 rfl rfl rfl rfl (by first | exact hC.k 0 rfl | exact hC.k 9 rfl | exact hC.k 2 rfl | exact hC.k 3 rfl | exact hC.k 1 rfl | exact hx | exact hr | exact hG.1 | exact hC.st.1) (by first | exact hC.p 1 rfl | exact hC.p 0 rfl | exact hC.p 9 rfl | exact hC.p 8 rfl | exact hC.p 16 rfl | exact hC.p 18 rfl | exact hpr | exact e9 | exact e10 | rfl) ?_
    refine VW.aload_n (pc' := 42) d_F_value_41 rfl rfl ?_
    refine VW.gI (ci := 10) (T := T10) (N := 11) (k := 9) (k' := 9) (pc' := 45) d_F_value_42 rfl lk_F_154 in10 rfl rfl rfl rfl (by first | exact hC.k 0 rfl | exact hC.k 9 rfl | exact hC.k 2 rfl | exact hC.k 3 rfl | exact hC.k 1 rfl | exact hx | exact hr | exact hG.1 | exact hC.st.1) (by first | exact hC.p 1 rfl | exact hC.p 0 rfl | exact hC.p 9 rfl | exact hC.p 8 rfl | exact hC.p 16 rfl | exact hC.p 18 rfl | exact hpr | exact e9 | exact e10 | rfl) ?_
    refine VW.iload_n (pc' := 46) d_F_value_45 rfl rfl ?_
    refine VW.iast (pc' := 47) d_F_value_46 rfl (by first | exact hC.k 0 rfl | exact hC.k 9 rfl | exact hC.k 2 rfl | exact hC.k 3 rfl | exact hC.k 1 rfl | exact hx | exact hr | exact hG.1 | exact hC.st.1) (by omega) (by omega) ?_
    refine VW.aload_n (pc' := 48) d_F_value_47 rfl rfl ?_
    refine VW.dup (pc' := 49) d_F_value_48 rfl rfl ?_
    refine VW.gI (ci := 10) (T := T10) (N := 11) (k := 9) (k' := 9) (pc' := 52) d_F_value_49 rfl lk_F_154 in10 rfl rfl rfl rfl (by first | exact hC.k 0 rfl | exact hC.k 9 rfl | exact hC.k 2 rfl | exact hC.k 3 rfl | exact hC.k 1 rfl | exact hx | exact hr | exact hG.1 | exact hC.st.1) (by first | exact hC.p 1 rfl | exact hC.p 0 rfl | exact hC.p 9 rfl | exact hC.p 8 rfl | exact hC.p 16 rfl | exact hC.p 18 rfl | exact hpr | exact e9 | exact e10 | rfl) ?_
    refine VW.iconst (pc' := 53) d_F_value_52 rfl (by decide) ?_
    refine VW.iadd (pc' := 54) d_F_value_53 rfl (by omega) ?_
    refine VW.pI (ci := 10) (T := T10) (N := 11) (k := 9) (k' := 9) (ty := ty10) (pc' := 57) d_F_value_54 rfl lk_F_154 in10 tk10 nm10 rfl rfl rfl rfl rfl rfl (by first | exact hC.k 0 rfl | exact hC.k 9 rfl | exact hC.k 2 rfl | exact hC.k 3 rfl | exact hC.k 1 rfl | exact hx | exact hr | exact hG.1 | exact hC.st.1) ?_
    refine VW.aload_n (pc' := 58) d_F_value_57 rfl rfl ?_
    refine VW.gI (ci := 10) (T := T10) (N := 11) (k := 9) (k' := 9) (pc' := 61) d_F_value_58 rfl lk_F_154 in10 rfl rfl rfl rfl (by first | exact hC.k 0 rfl | exact hC.k 9 rfl | exact hC.k 2 rfl | exact hC.k 3 rfl | exact hC.k 1 rfl | exact hx | exact hr | exact hG.1 | exact hC.st.1) (by first | exact hC.p 1 rfl | exact hC.p 0 rfl | exact hC.p 9 rfl | exact hC.p 8 rfl | exact hC.p 16 rfl | exact hC.p 18 rfl | exact hpr | exact e9 | exact e10 | rfl) ?_
    exact VW.iret d_F_value_61 rfl rfl (by decide) (by decide) ex_rf
theorem value_no1 (hC : ClW K P) (hv : ¬ okV v) : Sp m_F_value true ({ frames := 12, cells := 1, slots := 6, locals := 400 } : Room) (ex K P J I (.inr eIAE)) K P J I [vR (some 1000), vI v] := by
  refine Sp.ofV (by decide) (Or.inl rfl) rfl ?_
  refine VW.iload_n (pc' := 1) d_F_value_0 rfl rfl ?_
  refine VW.cS (pc' := 4) d_F_value_1 rfl ms_F_isNumber lk_F_104 rfl rfl rfl (by decide) (by decide) (sp_F_isNumber) rfl rfl ?_
  refine VW.if_ne (tgt := 13) (pc' := 7) d_F_value_4 rfl rfl (fun c4 => ?_) (fun c4 => ?_)
  case refine_1 => exact absurd c4 (fun w => hv (Or.inr (bIn w)))
  refine VW.iload_n (pc' := 8) d_F_value_7 rfl rfl ?_
  refine VW.ldc (pc' := 10) (z := -2147483648) d_F_value_8 rfl lk_F_153 (by decide) (by decide) ?_
  refine VW.icmp_ne (tgt := 17) (pc' := 13) d_F_value_10 rfl rfl (fun c10 => ?_) (fun c10 => ?_)
  case refine_2 => exact absurd c10 (fun w => hv (Or.inl w))
  refine VW.iconst (pc' := 18) d_F_value_17 rfl (by decide) ?_
  refine VW.callSX (pc' := 21) d_F_value_18 rfl (sp_F_demandRange0) rfl ms_F_demandRange.1 ms_F_demandRange.2.1 rfl ms_F_demandRange.2.2 lk_F_70 rfl rfl rfl (by decide) (by decide) (fun _ _ _ _ _ hz => ?_) (fun _ _ _ _ _ hz => by cases hz.1)
  obtain ⟨z1, z2, z3, z4, z5⟩ := hz
  cases z1
  replace z2 := z2.symm; replace z3 := z3.symm; replace z4 := z4.symm; replace z5 := z5.symm
  subst z2; subst z3; subst z4; subst z5
  exact Or.inl ⟨rfl, ex_rf⟩
  -- end
theorem value_no2 (hC : ClW K P) (hv : okV v) (h9 : 4 ≤ I 1000 9) : Sp m_F_value true ({ frames := 12, cells := 1, slots := 6, locals := 400 } : Room) (ex K P J I (.inr eISE)) K P J I [vR (some 1000), vI v] := by
  refine Sp.ofV (by decide) (Or.inl rfl) rfl ?_
  refine VW.iload_n (pc' := 1) d_F_value_0 rfl rfl ?_
  refine VW.cS (pc' := 4) d_F_value_1 rfl ms_F_isNumber lk_F_104 rfl rfl rfl (by decide) (by decide) (sp_F_isNumber) rfl rfl ?_
  refine VW.if_ne (tgt := 13) (pc' := 7) d_F_value_4 rfl rfl (fun c4 => ?_) (fun c4 => ?_)
  · try have e4 := bIn c4
    refine VW.iconst (pc' := 14) d_F_value_13 rfl (by decide) ?_
    refine VW.goto (pc' := 18) d_F_value_14 rfl ?_
    refine VW.callSX (pc' := 21) d_F_value_18 rfl (sp_F_demandRange1 (by decide)) rfl ms_F_demandRange.1 ms_F_demandRange.2.1 rfl ms_F_demandRange.2.2 lk_F_70 rfl rfl rfl (by decide) (by decide) (fun _ _ _ _ _ hz => by cases hz.1) (fun r _ _ _ _ hz => ?_)
    obtain ⟨z1, z2, z3, z4, z5⟩ := hz
    cases z1
    replace z2 := z2.symm; replace z3 := z3.symm; replace z4 := z4.symm; replace z5 := z5.symm
    subst z2; subst z3; subst z4; subst z5
    refine VW.aload_n (pc' := 22) d_F_value_21 rfl rfl ?_
    refine VW.gI (ci := 10) (T := T10) (N := 11) (k := 9) (k' := 9) (pc' := 25) d_F_value_22 rfl lk_F_154 in10 rfl rfl rfl rfl (by first | exact hC.k 0 rfl | exact hC.k 9 rfl | exact hC.k 2 rfl | exact hC.k 3 rfl | exact hC.k 1 rfl | exact hx | exact hr | exact hG.1 | exact hC.st.1) (by first | exact hC.p 1 rfl | exact hC.p 0 rfl | exact hC.p 9 rfl | exact hC.p 8 rfl | exact hC.p 16 rfl | exact hC.p 18 rfl | exact hpr | exact e9 | exact e10 | rfl) ?_
    refine VW.iconst (pc' := 26) d_F_value_25 rfl (by decide) ?_
    refine VW.icmp_ge (tgt := 33) (pc' := 29) d_F_value_26 rfl rfl (fun c26 => ?_) (fun c26 => ?_)
    case refine_2 => exact absurd c26 (by omega)
    refine VW.iconst (pc' := 34) d_F_value_33 rfl (by decide) ?_
    refine VW.callSX (pc' := 37) d_F_value_34 rfl (sp_F_demandState0) rfl ms_F_demandState.1 ms_F_demandState.2.1 rfl ms_F_demandState.2.2 lk_F_82 rfl rfl rfl (by decide) (by decide) (fun _ _ _ _ _ hz => ?_) (fun _ _ _ _ _ hz => by cases hz.1)
    obtain ⟨z1, z2, z3, z4, z5⟩ := hz
    cases z1
    replace z2 := z2.symm; replace z3 := z3.symm; replace z4 := z4.symm; replace z5 := z5.symm
    subst z2; subst z3; subst z4; subst z5
    exact Or.inl ⟨rfl, ex_rf⟩
    -- end
  · try have e4 := bIe c4
    refine VW.iload_n (pc' := 8) d_F_value_7 rfl rfl ?_
    refine VW.ldc (pc' := 10) (z := -2147483648) d_F_value_8 rfl lk_F_153 (by decide) (by decide) ?_
    refine VW.icmp_ne (tgt := 17) (pc' := 13) d_F_value_10 rfl rfl (fun c10 => ?_) (fun c10 => ?_)
    case refine_1 => exact absurd c10 (fun w => w (hv.resolve_right e4))
    refine VW.iconst (pc' := 14) d_F_value_13 rfl (by decide) ?_
    refine VW.goto (pc' := 18) d_F_value_14 rfl ?_
    refine VW.callSX (pc' := 21) d_F_value_18 rfl (sp_F_demandRange1 (by decide)) rfl ms_F_demandRange.1 ms_F_demandRange.2.1 rfl ms_F_demandRange.2.2 lk_F_70 rfl rfl rfl (by decide) (by decide) (fun _ _ _ _ _ hz => by cases hz.1) (fun r _ _ _ _ hz => ?_)
    obtain ⟨z1, z2, z3, z4, z5⟩ := hz
    cases z1
    replace z2 := z2.symm; replace z3 := z3.symm; replace z4 := z4.symm; replace z5 := z5.symm
    subst z2; subst z3; subst z4; subst z5
    refine VW.aload_n (pc' := 22) d_F_value_21 rfl rfl ?_
    refine VW.gI (ci := 10) (T := T10) (N := 11) (k := 9) (k' := 9) (pc' := 25) d_F_value_22 rfl lk_F_154 in10 rfl rfl rfl rfl (by first | exact hC.k 0 rfl | exact hC.k 9 rfl | exact hC.k 2 rfl | exact hC.k 3 rfl | exact hC.k 1 rfl | exact hx | exact hr | exact hG.1 | exact hC.st.1) (by first | exact hC.p 1 rfl | exact hC.p 0 rfl | exact hC.p 9 rfl | exact hC.p 8 rfl | exact hC.p 16 rfl | exact hC.p 18 rfl | exact hpr | exact e9 | exact e10 | rfl) ?_
    refine VW.iconst (pc' := 26) d_F_value_25 rfl (by decide) ?_
    refine VW.icmp_ge (tgt := 33) (pc' := 29) d_F_value_26 rfl rfl (fun c26 => ?_) (fun c26 => ?_)
    case refine_2 => exact absurd c26 (by omega)
    refine VW.iconst (pc' := 34) d_F_value_33 rfl (by decide) ?_
    refine VW.callSX (pc' := 37) d_F_value_34 rfl (sp_F_demandState0) rfl ms_F_demandState.1 ms_F_demandState.2.1 rfl ms_F_demandState.2.2 lk_F_82 rfl rfl rfl (by decide) (by decide) (fun _ _ _ _ _ hz => ?_) (fun _ _ _ _ _ hz => by cases hz.1)
    obtain ⟨z1, z2, z3, z4, z5⟩ := hz
    cases z1
    replace z2 := z2.symm; replace z3 := z3.symm; replace z4 := z4.symm; replace z5 := z5.symm
    subst z2; subst z3; subst z4; subst z5
    exact Or.inl ⟨rfl, ex_rf⟩
    -- end
theorem rowsOf_run (hC : ClW K P) (ht : 0 ≤ t ∧ t < I 1032 0) (h6 : I 1032 0 ≤ 6) : Sp m_F_rowsOf true ({ frames := 12, cells := 0, slots := 0, locals := 400 } : Room) (ex K P J I (.inl (some (vI (rwCnt I 1161 t 8))))) K P J I [vR (some 1000), vI t] := by
  have spB : Sp m_Schema_hasTable false (rmv 0 0) (ex K P J I (.inl (some (vI 1)))) K P J I [vR (some 1032), vI t] := by
    have := sp_Schema_hasTable (J := J) (I := I) (a := t) hC.sc
    rw [bI1 ht] at this
    exact this
  have spR := sp_Rows_count (J := J) (I := I) (t := t) hC.st ⟨ht.1, by omega⟩
  refine Sp.ofV (by decide) (Or.inl rfl) rfl ?_
  refine VW.aload_n (pc' := 1) d_F_rowsOf_0 rfl rfl ?_
  refine VW.gP (ci := 10) (T := T10) (N := 11) (k := 0) (k' := 0) (pc' := 4) d_F_rowsOf_1 rfl lk_F_12 in10 rfl rfl rfl rfl (by first | exact hC.k 0 rfl | exact hC.k 9 rfl | exact hC.k 2 rfl | exact hC.k 3 rfl | exact hC.k 1 rfl | exact hx | exact hr | exact hG.1 | exact hC.st.1) (by first | exact hC.p 1 rfl | exact hC.p 0 rfl | exact hC.p 9 rfl | exact hC.p 8 rfl | exact hC.p 16 rfl | exact hC.p 18 rfl | exact hpr | exact e9 | exact e10 | rfl) ?_
  refine VW.iload_n (pc' := 5) d_F_rowsOf_4 rfl rfl ?_
  refine VW.cV (ci := 7) (T := T7) (N := 8) (pc' := 8) d_F_rowsOf_5 rfl mv_Schema_hasTable lk_F_123 rfl (by first | exact hC.k 0 rfl | exact hC.k 9 rfl | exact hC.k 2 rfl | exact hC.k 3 rfl | exact hC.k 1 rfl | exact hx | exact hr | exact hG.1 | exact hC.st.1) rfl rfl rfl (by decide) (by decide) (spB) rfl rfl ?_
  refine VW.callSX (pc' := 11) d_F_rowsOf_8 rfl (sp_F_demandPlace1 (by decide)) rfl ms_F_demandPlace.1 ms_F_demandPlace.2.1 rfl ms_F_demandPlace.2.2 lk_F_97 rfl rfl rfl (by decide) (by decide) (fun _ _ _ _ _ hz => by cases hz.1) (fun r _ _ _ _ hz => ?_)
  obtain ⟨z1, z2, z3, z4, z5⟩ := hz
  cases z1
  replace z2 := z2.symm; replace z3 := z3.symm; replace z4 := z4.symm; replace z5 := z5.symm
  subst z2; subst z3; subst z4; subst z5
  refine VW.aload_n (pc' := 12) d_F_rowsOf_11 rfl rfl ?_
  refine VW.gP (ci := 10) (T := T10) (N := 11) (k := 1) (k' := 1) (pc' := 15) d_F_rowsOf_12 rfl lk_F_21 in10 rfl rfl rfl rfl (by first | exact hC.k 0 rfl | exact hC.k 9 rfl | exact hC.k 2 rfl | exact hC.k 3 rfl | exact hC.k 1 rfl | exact hx | exact hr | exact hG.1 | exact hC.st.1) (by first | exact hC.p 1 rfl | exact hC.p 0 rfl | exact hC.p 9 rfl | exact hC.p 8 rfl | exact hC.p 16 rfl | exact hC.p 18 rfl | exact hpr | exact e9 | exact e10 | rfl) ?_
  refine VW.gP (ci := 0) (T := T0) (N := 8) (k := 1) (k' := 1) (pc' := 18) d_F_rowsOf_15 rfl lk_F_110 in0 rfl rfl rfl rfl (by first | exact hC.k 0 rfl | exact hC.k 9 rfl | exact hC.k 2 rfl | exact hC.k 3 rfl | exact hC.k 1 rfl | exact hx | exact hr | exact hG.1 | exact hC.st.1) (by first | exact hC.p 1 rfl | exact hC.p 0 rfl | exact hC.p 9 rfl | exact hC.p 8 rfl | exact hC.p 16 rfl | exact hC.p 18 rfl | exact hpr | exact e9 | exact e10 | rfl) ?_
  refine VW.iload_n (pc' := 19) d_F_rowsOf_18 rfl rfl ?_
  refine VW.cV (ci := 6) (T := T6) (N := 1) (pc' := 22) d_F_rowsOf_19 rfl mv_Rows_count lk_F_114 rfl (by first | exact hC.k 0 rfl | exact hC.k 9 rfl | exact hC.k 2 rfl | exact hC.k 3 rfl | exact hC.k 1 rfl | exact hx | exact hr | exact hG.1 | exact hC.st.1) rfl rfl rfl (by decide) (by decide) (spR) rfl rfl ?_
  exact VW.iret d_F_rowsOf_22 rfl rfl (by decide) (by decide) ex_rf
theorem rowsOf_no1 (hC : ClW K P) (ht : ¬ (0 ≤ t ∧ t < I 1032 0)) : Sp m_F_rowsOf true ({ frames := 12, cells := 1, slots := 6, locals := 400 } : Room) (ex K P J I (.inr eIOO)) K P J I [vR (some 1000), vI t] := by
  have spB : Sp m_Schema_hasTable false (rmv 0 0) (ex K P J I (.inl (some (vI 0)))) K P J I [vR (some 1032), vI t] := by
    have := sp_Schema_hasTable (J := J) (I := I) (a := t) hC.sc
    rw [bI0 ht] at this
    exact this
  refine Sp.ofV (by decide) (Or.inl rfl) rfl ?_
  refine VW.aload_n (pc' := 1) d_F_rowsOf_0 rfl rfl ?_
  refine VW.gP (ci := 10) (T := T10) (N := 11) (k := 0) (k' := 0) (pc' := 4) d_F_rowsOf_1 rfl lk_F_12 in10 rfl rfl rfl rfl (by first | exact hC.k 0 rfl | exact hC.k 9 rfl | exact hC.k 2 rfl | exact hC.k 3 rfl | exact hC.k 1 rfl | exact hx | exact hr | exact hG.1 | exact hC.st.1) (by first | exact hC.p 1 rfl | exact hC.p 0 rfl | exact hC.p 9 rfl | exact hC.p 8 rfl | exact hC.p 16 rfl | exact hC.p 18 rfl | exact hpr | exact e9 | exact e10 | rfl) ?_
  refine VW.iload_n (pc' := 5) d_F_rowsOf_4 rfl rfl ?_
  refine VW.cV (ci := 7) (T := T7) (N := 8) (pc' := 8) d_F_rowsOf_5 rfl mv_Schema_hasTable lk_F_123 rfl (by first | exact hC.k 0 rfl | exact hC.k 9 rfl | exact hC.k 2 rfl | exact hC.k 3 rfl | exact hC.k 1 rfl | exact hx | exact hr | exact hG.1 | exact hC.st.1) rfl rfl rfl (by decide) (by decide) (spB) rfl rfl ?_
  refine VW.callSX (pc' := 11) d_F_rowsOf_8 rfl (sp_F_demandPlace0) rfl ms_F_demandPlace.1 ms_F_demandPlace.2.1 rfl ms_F_demandPlace.2.2 lk_F_97 rfl rfl rfl (by decide) (by decide) (fun _ _ _ _ _ hz => ?_) (fun _ _ _ _ _ hz => by cases hz.1)
  obtain ⟨z1, z2, z3, z4, z5⟩ := hz
  cases z1
  replace z2 := z2.symm; replace z3 := z3.symm; replace z4 := z4.symm; replace z5 := z5.symm
  subst z2; subst z3; subst z4; subst z5
  exact Or.inl ⟨rfl, ex_rf⟩
  -- end
theorem committed_run (hC : ClW K P) (h6 : I 1032 0 ≤ 6) (hc : (0 ≤ t ∧ t < I 1032 0) ∧ 0 ≤ c ∧ c < I 1034 t) (h4 : I 1034 t ≤ 4) : Sp m_F_committed true ({ frames := 12, cells := 0, slots := 0, locals := 400 } : Room) (ex K P J I (.inl (some (vI (rwCell I 1161 t y c))))) K P J I [vR (some 1000), vI t, vI y, vI c] := by
  have spB : Sp m_Schema_hasColumn false (rmv 1 21) (ex K P J I (.inl (some (vI 1)))) K P J I [vR (some 1032), vI t, vI c] := by
    have := sp_Schema_hasColumn (J := J) (I := I) (a := t) (b := c) hC.sc h6
    rw [bI1 hc] at this
    exact this
  have spR := sp_Rows_cellOf (J := J) (I := I) (t := t) (y := y) (c := c) hC.st ⟨hc.1.1, by omega⟩ ⟨hc.2.1, by omega⟩
  refine Sp.ofV (by decide) (Or.inl rfl) rfl ?_
  refine VW.aload_n (pc' := 1) d_F_committed_0 rfl rfl ?_
  refine VW.gP (ci := 10) (T := T10) (N := 11) (k := 0) (k' := 0) (pc' := 4) d_F_committed_1 rfl lk_F_12 in10 rfl rfl rfl rfl (by first | exact hC.k 0 rfl | exact hC.k 9 rfl | exact hC.k 2 rfl | exact hC.k 3 rfl | exact hC.k 1 rfl | exact hx | exact hr | exact hG.1 | exact hC.st.1) (by first | exact hC.p 1 rfl | exact hC.p 0 rfl | exact hC.p 9 rfl | exact hC.p 8 rfl | exact hC.p 16 rfl | exact hC.p 18 rfl | exact hpr | exact e9 | exact e10 | rfl) ?_
  refine VW.iload_n (pc' := 5) d_F_committed_4 rfl rfl ?_
  refine VW.iload_n (pc' := 6) d_F_committed_5 rfl rfl ?_
  refine VW.cV (ci := 7) (T := T7) (N := 8) (pc' := 9) d_F_committed_6 rfl mv_Schema_hasColumn lk_F_93 rfl (by first | exact hC.k 0 rfl | exact hC.k 9 rfl | exact hC.k 2 rfl | exact hC.k 3 rfl | exact hC.k 1 rfl | exact hx | exact hr | exact hG.1 | exact hC.st.1) rfl rfl rfl (by decide) (by decide) (spB) rfl rfl ?_
  refine VW.callSX (pc' := 12) d_F_committed_9 rfl (sp_F_demandPlace1 (by decide)) rfl ms_F_demandPlace.1 ms_F_demandPlace.2.1 rfl ms_F_demandPlace.2.2 lk_F_97 rfl rfl rfl (by decide) (by decide) (fun _ _ _ _ _ hz => by cases hz.1) (fun r _ _ _ _ hz => ?_)
  obtain ⟨z1, z2, z3, z4, z5⟩ := hz
  cases z1
  replace z2 := z2.symm; replace z3 := z3.symm; replace z4 := z4.symm; replace z5 := z5.symm
  subst z2; subst z3; subst z4; subst z5
  refine VW.aload_n (pc' := 13) d_F_committed_12 rfl rfl ?_
  refine VW.gP (ci := 10) (T := T10) (N := 11) (k := 1) (k' := 1) (pc' := 16) d_F_committed_13 rfl lk_F_21 in10 rfl rfl rfl rfl (by first | exact hC.k 0 rfl | exact hC.k 9 rfl | exact hC.k 2 rfl | exact hC.k 3 rfl | exact hC.k 1 rfl | exact hx | exact hr | exact hG.1 | exact hC.st.1) (by first | exact hC.p 1 rfl | exact hC.p 0 rfl | exact hC.p 9 rfl | exact hC.p 8 rfl | exact hC.p 16 rfl | exact hC.p 18 rfl | exact hpr | exact e9 | exact e10 | rfl) ?_
  refine VW.gP (ci := 0) (T := T0) (N := 8) (k := 1) (k' := 1) (pc' := 19) d_F_committed_16 rfl lk_F_110 in0 rfl rfl rfl rfl (by first | exact hC.k 0 rfl | exact hC.k 9 rfl | exact hC.k 2 rfl | exact hC.k 3 rfl | exact hC.k 1 rfl | exact hx | exact hr | exact hG.1 | exact hC.st.1) (by first | exact hC.p 1 rfl | exact hC.p 0 rfl | exact hC.p 9 rfl | exact hC.p 8 rfl | exact hC.p 16 rfl | exact hC.p 18 rfl | exact hpr | exact e9 | exact e10 | rfl) ?_
  refine VW.iload_n (pc' := 20) d_F_committed_19 rfl rfl ?_
  refine VW.iload_n (pc' := 21) d_F_committed_20 rfl rfl ?_
  refine VW.iload_n (pc' := 22) d_F_committed_21 rfl rfl ?_
  refine VW.cV (ci := 6) (T := T6) (N := 1) (pc' := 25) d_F_committed_22 rfl mv_Rows_cellOf lk_F_215 rfl (by first | exact hC.k 0 rfl | exact hC.k 9 rfl | exact hC.k 2 rfl | exact hC.k 3 rfl | exact hC.k 1 rfl | exact hx | exact hr | exact hG.1 | exact hC.st.1) rfl rfl rfl (by decide) (by decide) (spR) rfl rfl ?_
  exact VW.iret d_F_committed_25 rfl rfl (by decide) (by decide) ex_rf
theorem committed_no1 (hC : ClW K P) (h6 : I 1032 0 ≤ 6) (hc : ¬ ((0 ≤ t ∧ t < I 1032 0) ∧ 0 ≤ c ∧ c < I 1034 t)) : Sp m_F_committed true ({ frames := 12, cells := 1, slots := 6, locals := 400 } : Room) (ex K P J I (.inr eIOO)) K P J I [vR (some 1000), vI t, vI y, vI c] := by
  have spB : Sp m_Schema_hasColumn false (rmv 1 21) (ex K P J I (.inl (some (vI 0)))) K P J I [vR (some 1032), vI t, vI c] := by
    have := sp_Schema_hasColumn (J := J) (I := I) (a := t) (b := c) hC.sc h6
    rw [bI0 hc] at this
    exact this
  refine Sp.ofV (by decide) (Or.inl rfl) rfl ?_
  refine VW.aload_n (pc' := 1) d_F_committed_0 rfl rfl ?_
  refine VW.gP (ci := 10) (T := T10) (N := 11) (k := 0) (k' := 0) (pc' := 4) d_F_committed_1 rfl lk_F_12 in10 rfl rfl rfl rfl (by first | exact hC.k 0 rfl | exact hC.k 9 rfl | exact hC.k 2 rfl | exact hC.k 3 rfl | exact hC.k 1 rfl | exact hx | exact hr | exact hG.1 | exact hC.st.1) (by first | exact hC.p 1 rfl | exact hC.p 0 rfl | exact hC.p 9 rfl | exact hC.p 8 rfl | exact hC.p 16 rfl | exact hC.p 18 rfl | exact hpr | exact e9 | exact e10 | rfl) ?_
  refine VW.iload_n (pc' := 5) d_F_committed_4 rfl rfl ?_
  refine VW.iload_n (pc' := 6) d_F_committed_5 rfl rfl ?_
  refine VW.cV (ci := 7) (T := T7) (N := 8) (pc' := 9) d_F_committed_6 rfl mv_Schema_hasColumn lk_F_93 rfl (by first | exact hC.k 0 rfl | exact hC.k 9 rfl | exact hC.k 2 rfl | exact hC.k 3 rfl | exact hC.k 1 rfl | exact hx | exact hr | exact hG.1 | exact hC.st.1) rfl rfl rfl (by decide) (by decide) (spB) rfl rfl ?_
  refine VW.callSX (pc' := 12) d_F_committed_9 rfl (sp_F_demandPlace0) rfl ms_F_demandPlace.1 ms_F_demandPlace.2.1 rfl ms_F_demandPlace.2.2 lk_F_97 rfl rfl rfl (by decide) (by decide) (fun _ _ _ _ _ hz => ?_) (fun _ _ _ _ _ hz => by cases hz.1)
  obtain ⟨z1, z2, z3, z4, z5⟩ := hz
  cases z1
  replace z2 := z2.symm; replace z3 := z3.symm; replace z4 := z4.symm; replace z5 := z5.symm
  subst z2; subst z3; subst z4; subst z5
  exact Or.inl ⟨rfl, ex_rf⟩
  -- end
theorem committedByLog_no1 (hC : ClW K P) (h6 : I 1032 0 ≤ 6) (hc : ¬ ((0 ≤ t ∧ t < I 1032 0) ∧ 0 ≤ c ∧ c < I 1034 t)) : Sp m_F_committedByLog true ({ frames := 12, cells := 1, slots := 6, locals := 400 } : Room) (ex K P J I (.inr eIOO)) K P J I [vR (some 1000), vI t, vI y, vI c] := by
  have spB : Sp m_Schema_hasColumn false (rmv 1 21) (ex K P J I (.inl (some (vI 0)))) K P J I [vR (some 1032), vI t, vI c] := by
    have := sp_Schema_hasColumn (J := J) (I := I) (a := t) (b := c) hC.sc h6
    rw [bI0 hc] at this
    exact this
  refine Sp.ofV (by decide) (Or.inl rfl) rfl ?_
  refine VW.aload_n (pc' := 1) d_F_committedByLog_0 rfl rfl ?_
  refine VW.gP (ci := 10) (T := T10) (N := 11) (k := 0) (k' := 0) (pc' := 4) d_F_committedByLog_1 rfl lk_F_12 in10 rfl rfl rfl rfl (by first | exact hC.k 0 rfl | exact hC.k 9 rfl | exact hC.k 2 rfl | exact hC.k 3 rfl | exact hC.k 1 rfl | exact hx | exact hr | exact hG.1 | exact hC.st.1) (by first | exact hC.p 1 rfl | exact hC.p 0 rfl | exact hC.p 9 rfl | exact hC.p 8 rfl | exact hC.p 16 rfl | exact hC.p 18 rfl | exact hpr | exact e9 | exact e10 | rfl) ?_
  refine VW.iload_n (pc' := 5) d_F_committedByLog_4 rfl rfl ?_
  refine VW.iload_n (pc' := 6) d_F_committedByLog_5 rfl rfl ?_
  refine VW.cV (ci := 7) (T := T7) (N := 8) (pc' := 9) d_F_committedByLog_6 rfl mv_Schema_hasColumn lk_F_93 rfl (by first | exact hC.k 0 rfl | exact hC.k 9 rfl | exact hC.k 2 rfl | exact hC.k 3 rfl | exact hC.k 1 rfl | exact hx | exact hr | exact hG.1 | exact hC.st.1) rfl rfl rfl (by decide) (by decide) (spB) rfl rfl ?_
  refine VW.callSX (pc' := 12) d_F_committedByLog_9 rfl (sp_F_demandPlace0) rfl ms_F_demandPlace.1 ms_F_demandPlace.2.1 rfl ms_F_demandPlace.2.2 lk_F_97 rfl rfl rfl (by decide) (by decide) (fun _ _ _ _ _ hz => ?_) (fun _ _ _ _ _ hz => by cases hz.1)
  obtain ⟨z1, z2, z3, z4, z5⟩ := hz
  cases z1
  replace z2 := z2.symm; replace z3 := z3.symm; replace z4 := z4.symm; replace z5 := z5.symm
  subst z2; subst z3; subst z4; subst z5
  exact Or.inl ⟨rfl, ex_rf⟩
  -- end
theorem recordKind_run {d w q m : Nat} (hC : ClW K P) (hG : LgW K P 1192 d w q m) (hB : LgB I 1192 d w) (ha : 0 ≤ a ∧ a < I 1192 0) : Sp m_F_recordKind true ({ frames := 12, cells := 0, slots := 0, locals := 400 } : Room) (ex K P J I (.inl (some (vI (I d (a * 8)))))) K P J I [vR (some 1000), vI a] := by
  have spB : Sp m_Log_holds false (rmv 0 0) (ex K P J I (.inl (some (vI 1)))) K P J I [vR (some 1192), vI a] := by
    have := sp_Log_holds (J := J) (p := a) hG hB
    rw [bI1 ha] at this
    exact this
  have b := hB.1
  have spR := sp_Log_kindOf (J := J) (I := I) (p := a) hG ⟨ha.1, by omega, by omega⟩
  refine Sp.ofV (by decide) (Or.inl rfl) rfl ?_
  refine VW.aload_n (pc' := 1) d_F_recordKind_0 rfl rfl ?_
  refine VW.gP (ci := 10) (T := T10) (N := 11) (k := 1) (k' := 1) (pc' := 4) d_F_recordKind_1 rfl lk_F_21 in10 rfl rfl rfl rfl (by first | exact hC.k 0 rfl | exact hC.k 9 rfl | exact hC.k 2 rfl | exact hC.k 3 rfl | exact hC.k 1 rfl | exact hx | exact hr | exact hG.1 | exact hC.st.1) (by first | exact hC.p 1 rfl | exact hC.p 0 rfl | exact hC.p 9 rfl | exact hC.p 8 rfl | exact hC.p 16 rfl | exact hC.p 18 rfl | exact hpr | exact e9 | exact e10 | rfl) ?_
  refine VW.gP (ci := 0) (T := T0) (N := 8) (k := 3) (k' := 3) (pc' := 7) d_F_recordKind_4 rfl lk_F_219 in0 rfl rfl rfl rfl (by first | exact hC.k 0 rfl | exact hC.k 9 rfl | exact hC.k 2 rfl | exact hC.k 3 rfl | exact hC.k 1 rfl | exact hx | exact hr | exact hG.1 | exact hC.st.1) (by first | exact hC.p 1 rfl | exact hC.p 0 rfl | exact hC.p 9 rfl | exact hC.p 8 rfl | exact hC.p 16 rfl | exact hC.p 18 rfl | exact hpr | exact e9 | exact e10 | rfl) ?_
  refine VW.iload_n (pc' := 8) d_F_recordKind_7 rfl rfl ?_
  refine VW.cV (ci := 2) (T := T2) (N := 5) (pc' := 11) d_F_recordKind_8 rfl mv_Log_holds lk_F_339 rfl (by first | exact hC.k 0 rfl | exact hC.k 9 rfl | exact hC.k 2 rfl | exact hC.k 3 rfl | exact hC.k 1 rfl | exact hx | exact hr | exact hG.1 | exact hC.st.1) rfl rfl rfl (by decide) (by decide) (spB) rfl rfl ?_
  refine VW.callSX (pc' := 14) d_F_recordKind_11 rfl (sp_F_demandPlace1 (by decide)) rfl ms_F_demandPlace.1 ms_F_demandPlace.2.1 rfl ms_F_demandPlace.2.2 lk_F_97 rfl rfl rfl (by decide) (by decide) (fun _ _ _ _ _ hz => by cases hz.1) (fun r _ _ _ _ hz => ?_)
  obtain ⟨z1, z2, z3, z4, z5⟩ := hz
  cases z1
  replace z2 := z2.symm; replace z3 := z3.symm; replace z4 := z4.symm; replace z5 := z5.symm
  subst z2; subst z3; subst z4; subst z5
  refine VW.aload_n (pc' := 15) d_F_recordKind_14 rfl rfl ?_
  refine VW.gP (ci := 10) (T := T10) (N := 11) (k := 1) (k' := 1) (pc' := 18) d_F_recordKind_15 rfl lk_F_21 in10 rfl rfl rfl rfl (by first | exact hC.k 0 rfl | exact hC.k 9 rfl | exact hC.k 2 rfl | exact hC.k 3 rfl | exact hC.k 1 rfl | exact hx | exact hr | exact hG.1 | exact hC.st.1) (by first | exact hC.p 1 rfl | exact hC.p 0 rfl | exact hC.p 9 rfl | exact hC.p 8 rfl | exact hC.p 16 rfl | exact hC.p 18 rfl | exact hpr | exact e9 | exact e10 | rfl) ?_
  refine VW.gP (ci := 0) (T := T0) (N := 8) (k := 3) (k' := 3) (pc' := 21) d_F_recordKind_18 rfl lk_F_219 in0 rfl rfl rfl rfl (by first | exact hC.k 0 rfl | exact hC.k 9 rfl | exact hC.k 2 rfl | exact hC.k 3 rfl | exact hC.k 1 rfl | exact hx | exact hr | exact hG.1 | exact hC.st.1) (by first | exact hC.p 1 rfl | exact hC.p 0 rfl | exact hC.p 9 rfl | exact hC.p 8 rfl | exact hC.p 16 rfl | exact hC.p 18 rfl | exact hpr | exact e9 | exact e10 | rfl) ?_
  refine VW.iload_n (pc' := 22) d_F_recordKind_21 rfl rfl ?_
  refine VW.cV (ci := 2) (T := T2) (N := 5) (pc' := 25) d_F_recordKind_22 rfl mv_Log_kindOf lk_F_342 rfl (by first | exact hC.k 0 rfl | exact hC.k 9 rfl | exact hC.k 2 rfl | exact hC.k 3 rfl | exact hC.k 1 rfl | exact hx | exact hr | exact hG.1 | exact hC.st.1) rfl rfl rfl (by decide) (by decide) (spR) rfl rfl ?_
  exact VW.iret d_F_recordKind_25 rfl rfl (by decide) (by decide) ex_rf
theorem recordOf_run {d w q m : Nat} (hC : ClW K P) (hG : LgW K P 1192 d w q m) (hB : LgB I 1192 d w) (ha : 0 ≤ a ∧ a < I 1192 0) : Sp m_F_recordOf true ({ frames := 12, cells := 0, slots := 0, locals := 400 } : Room) (ex K P J I (.inl (some (vI (I d (a * 8 + 1)))))) K P J I [vR (some 1000), vI a] := by
  have spB : Sp m_Log_holds false (rmv 0 0) (ex K P J I (.inl (some (vI 1)))) K P J I [vR (some 1192), vI a] := by
    have := sp_Log_holds (J := J) (p := a) hG hB
    rw [bI1 ha] at this
    exact this
  have b := hB.1
  have spR := sp_Log_writerOf (J := J) (I := I) (p := a) hG ⟨ha.1, by omega, by omega⟩
  refine Sp.ofV (by decide) (Or.inl rfl) rfl ?_
  refine VW.aload_n (pc' := 1) d_F_recordOf_0 rfl rfl ?_
  refine VW.gP (ci := 10) (T := T10) (N := 11) (k := 1) (k' := 1) (pc' := 4) d_F_recordOf_1 rfl lk_F_21 in10 rfl rfl rfl rfl (by first | exact hC.k 0 rfl | exact hC.k 9 rfl | exact hC.k 2 rfl | exact hC.k 3 rfl | exact hC.k 1 rfl | exact hx | exact hr | exact hG.1 | exact hC.st.1) (by first | exact hC.p 1 rfl | exact hC.p 0 rfl | exact hC.p 9 rfl | exact hC.p 8 rfl | exact hC.p 16 rfl | exact hC.p 18 rfl | exact hpr | exact e9 | exact e10 | rfl) ?_
  refine VW.gP (ci := 0) (T := T0) (N := 8) (k := 3) (k' := 3) (pc' := 7) d_F_recordOf_4 rfl lk_F_219 in0 rfl rfl rfl rfl (by first | exact hC.k 0 rfl | exact hC.k 9 rfl | exact hC.k 2 rfl | exact hC.k 3 rfl | exact hC.k 1 rfl | exact hx | exact hr | exact hG.1 | exact hC.st.1) (by first | exact hC.p 1 rfl | exact hC.p 0 rfl | exact hC.p 9 rfl | exact hC.p 8 rfl | exact hC.p 16 rfl | exact hC.p 18 rfl | exact hpr | exact e9 | exact e10 | rfl) ?_
  refine VW.iload_n (pc' := 8) d_F_recordOf_7 rfl rfl ?_
  refine VW.cV (ci := 2) (T := T2) (N := 5) (pc' := 11) d_F_recordOf_8 rfl mv_Log_holds lk_F_339 rfl (by first | exact hC.k 0 rfl | exact hC.k 9 rfl | exact hC.k 2 rfl | exact hC.k 3 rfl | exact hC.k 1 rfl | exact hx | exact hr | exact hG.1 | exact hC.st.1) rfl rfl rfl (by decide) (by decide) (spB) rfl rfl ?_
  refine VW.callSX (pc' := 14) d_F_recordOf_11 rfl (sp_F_demandPlace1 (by decide)) rfl ms_F_demandPlace.1 ms_F_demandPlace.2.1 rfl ms_F_demandPlace.2.2 lk_F_97 rfl rfl rfl (by decide) (by decide) (fun _ _ _ _ _ hz => by cases hz.1) (fun r _ _ _ _ hz => ?_)
  obtain ⟨z1, z2, z3, z4, z5⟩ := hz
  cases z1
  replace z2 := z2.symm; replace z3 := z3.symm; replace z4 := z4.symm; replace z5 := z5.symm
  subst z2; subst z3; subst z4; subst z5
  refine VW.aload_n (pc' := 15) d_F_recordOf_14 rfl rfl ?_
  refine VW.gP (ci := 10) (T := T10) (N := 11) (k := 1) (k' := 1) (pc' := 18) d_F_recordOf_15 rfl lk_F_21 in10 rfl rfl rfl rfl (by first | exact hC.k 0 rfl | exact hC.k 9 rfl | exact hC.k 2 rfl | exact hC.k 3 rfl | exact hC.k 1 rfl | exact hx | exact hr | exact hG.1 | exact hC.st.1) (by first | exact hC.p 1 rfl | exact hC.p 0 rfl | exact hC.p 9 rfl | exact hC.p 8 rfl | exact hC.p 16 rfl | exact hC.p 18 rfl | exact hpr | exact e9 | exact e10 | rfl) ?_
  refine VW.gP (ci := 0) (T := T0) (N := 8) (k := 3) (k' := 3) (pc' := 21) d_F_recordOf_18 rfl lk_F_219 in0 rfl rfl rfl rfl (by first | exact hC.k 0 rfl | exact hC.k 9 rfl | exact hC.k 2 rfl | exact hC.k 3 rfl | exact hC.k 1 rfl | exact hx | exact hr | exact hG.1 | exact hC.st.1) (by first | exact hC.p 1 rfl | exact hC.p 0 rfl | exact hC.p 9 rfl | exact hC.p 8 rfl | exact hC.p 16 rfl | exact hC.p 18 rfl | exact hpr | exact e9 | exact e10 | rfl) ?_
  refine VW.iload_n (pc' := 22) d_F_recordOf_21 rfl rfl ?_
  refine VW.cV (ci := 2) (T := T2) (N := 5) (pc' := 25) d_F_recordOf_22 rfl mv_Log_writerOf lk_F_345 rfl (by first | exact hC.k 0 rfl | exact hC.k 9 rfl | exact hC.k 2 rfl | exact hC.k 3 rfl | exact hC.k 1 rfl | exact hx | exact hr | exact hG.1 | exact hC.st.1) rfl rfl rfl (by decide) (by decide) (spR) rfl rfl ?_
  exact VW.iret d_F_recordOf_25 rfl rfl (by decide) (by decide) ex_rf
theorem recordAt_run {d w q m : Nat} (hC : ClW K P) (hG : LgW K P 1192 d w q m) (hB : LgB I 1192 d w) (ha : 0 ≤ a ∧ a < I 1192 0) : Sp m_F_recordAt true ({ frames := 12, cells := 0, slots := 0, locals := 400 } : Room) (ex K P J I (.inl (some (vI (if c = 0 then I d (a * 8 + 2) else I d (a * 8 + 3)))))) K P J I [vR (some 1000), vI a, vI c] := by
  have spB : Sp m_Log_holds false (rmv 0 0) (ex K P J I (.inl (some (vI 1)))) K P J I [vR (some 1192), vI a] := by
    have := sp_Log_holds (J := J) (p := a) hG hB
    rw [bI1 ha] at this
    exact this
  have b := hB.1
  have spK := sp_Log_keyOf (J := J) (I := I) (p := a) hG ⟨ha.1, by omega, by omega⟩
  have spT := sp_Log_tableOf (J := J) (I := I) (p := a) hG ⟨ha.1, by omega, by omega⟩
  refine Sp.ofV (by decide) (Or.inl rfl) rfl ?_
  refine VW.aload_n (pc' := 1) d_F_recordAt_0 rfl rfl ?_
  refine VW.gP (ci := 10) (T := T10) (N := 11) (k := 1) (k' := 1) (pc' := 4) d_F_recordAt_1 rfl lk_F_21 in10 rfl rfl rfl rfl (by first | exact hC.k 0 rfl | exact hC.k 9 rfl | exact hC.k 2 rfl | exact hC.k 3 rfl | exact hC.k 1 rfl | exact hx | exact hr | exact hG.1 | exact hC.st.1) (by first | exact hC.p 1 rfl | exact hC.p 0 rfl | exact hC.p 9 rfl | exact hC.p 8 rfl | exact hC.p 16 rfl | exact hC.p 18 rfl | exact hpr | exact e9 | exact e10 | rfl) ?_
  refine VW.gP (ci := 0) (T := T0) (N := 8) (k := 3) (k' := 3) (pc' := 7) d_F_recordAt_4 rfl lk_F_219 in0 rfl rfl rfl rfl (by first | exact hC.k 0 rfl | exact hC.k 9 rfl | exact hC.k 2 rfl | exact hC.k 3 rfl | exact hC.k 1 rfl | exact hx | exact hr | exact hG.1 | exact hC.st.1) (by first | exact hC.p 1 rfl | exact hC.p 0 rfl | exact hC.p 9 rfl | exact hC.p 8 rfl | exact hC.p 16 rfl | exact hC.p 18 rfl | exact hpr | exact e9 | exact e10 | rfl) ?_
  refine VW.iload_n (pc' := 8) d_F_recordAt_7 rfl rfl ?_
  refine VW.cV (ci := 2) (T := T2) (N := 5) (pc' := 11) d_F_recordAt_8 rfl mv_Log_holds lk_F_339 rfl (by first | exact hC.k 0 rfl | exact hC.k 9 rfl | exact hC.k 2 rfl | exact hC.k 3 rfl | exact hC.k 1 rfl | exact hx | exact hr | exact hG.1 | exact hC.st.1) rfl rfl rfl (by decide) (by decide) (spB) rfl rfl ?_
  refine VW.callSX (pc' := 14) d_F_recordAt_11 rfl (sp_F_demandPlace1 (by decide)) rfl ms_F_demandPlace.1 ms_F_demandPlace.2.1 rfl ms_F_demandPlace.2.2 lk_F_97 rfl rfl rfl (by decide) (by decide) (fun _ _ _ _ _ hz => by cases hz.1) (fun r _ _ _ _ hz => ?_)
  obtain ⟨z1, z2, z3, z4, z5⟩ := hz
  cases z1
  replace z2 := z2.symm; replace z3 := z3.symm; replace z4 := z4.symm; replace z5 := z5.symm
  subst z2; subst z3; subst z4; subst z5
  refine VW.iload_n (pc' := 15) d_F_recordAt_14 rfl rfl ?_
  refine VW.if_eq (tgt := 32) (pc' := 18) d_F_recordAt_15 rfl rfl (fun c15 => ?_) (fun c15 => ?_)
  · try have e15 := bIe c15
    refine VW.aload_n (pc' := 33) d_F_recordAt_32 rfl rfl ?_
    refine VW.gP (ci := 10) (T := T10) (N := 11) (k := 1) (k' := 1) (pc' := 36) d_F_recordAt_33 rfl lk_F_21 in10 rfl rfl rfl rfl (by first | exact hC.k 0 rfl | exact hC.k 9 rfl | exact hC.k 2 rfl | exact hC.k 3 rfl | exact hC.k 1 rfl | exact hx | exact hr | exact hG.1 | exact hC.st.1) (by first | exact hC.p 1 rfl | exact hC.p 0 rfl | exact hC.p 9 rfl | exact hC.p 8 rfl | exact hC.p 16 rfl | exact hC.p 18 rfl | exact hpr | exact e9 | exact e10 | rfl) ?_
    refine VW.gP (ci := 0) (T := T0) (N := 8) (k := 3) (k' := 3) (pc' := 39) d_F_recordAt_36 rfl lk_F_219 in0 rfl rfl rfl rfl (by first | exact hC.k 0 rfl | exact hC.k 9 rfl | exact hC.k 2 rfl | exact hC.k 3 rfl | exact hC.k 1 rfl | exact hx | exact hr | exact hG.1 | exact hC.st.1) (by first | exact hC.p 1 rfl | exact hC.p 0 rfl | exact hC.p 9 rfl | exact hC.p 8 rfl | exact hC.p 16 rfl | exact hC.p 18 rfl | exact hpr | exact e9 | exact e10 | rfl) ?_
    refine VW.iload_n (pc' := 40) d_F_recordAt_39 rfl rfl ?_
    refine VW.cV (ci := 2) (T := T2) (N := 5) (pc' := 43) d_F_recordAt_40 rfl mv_Log_tableOf lk_F_351 rfl (by first | exact hC.k 0 rfl | exact hC.k 9 rfl | exact hC.k 2 rfl | exact hC.k 3 rfl | exact hC.k 1 rfl | exact hx | exact hr | exact hG.1 | exact hC.st.1) rfl rfl rfl (by decide) (by decide) (spT) rfl rfl ?_
    exact VW.iret d_F_recordAt_43 rfl rfl (by decide) (by decide) (by first | exact ex_v (if_pos c15) | exact ex_v (if_neg c15))
  · try have e15 := bIn c15
    refine VW.aload_n (pc' := 19) d_F_recordAt_18 rfl rfl ?_
    refine VW.gP (ci := 10) (T := T10) (N := 11) (k := 1) (k' := 1) (pc' := 22) d_F_recordAt_19 rfl lk_F_21 in10 rfl rfl rfl rfl (by first | exact hC.k 0 rfl | exact hC.k 9 rfl | exact hC.k 2 rfl | exact hC.k 3 rfl | exact hC.k 1 rfl | exact hx | exact hr | exact hG.1 | exact hC.st.1) (by first | exact hC.p 1 rfl | exact hC.p 0 rfl | exact hC.p 9 rfl | exact hC.p 8 rfl | exact hC.p 16 rfl | exact hC.p 18 rfl | exact hpr | exact e9 | exact e10 | rfl) ?_
    refine VW.gP (ci := 0) (T := T0) (N := 8) (k := 3) (k' := 3) (pc' := 25) d_F_recordAt_22 rfl lk_F_219 in0 rfl rfl rfl rfl (by first | exact hC.k 0 rfl | exact hC.k 9 rfl | exact hC.k 2 rfl | exact hC.k 3 rfl | exact hC.k 1 rfl | exact hx | exact hr | exact hG.1 | exact hC.st.1) (by first | exact hC.p 1 rfl | exact hC.p 0 rfl | exact hC.p 9 rfl | exact hC.p 8 rfl | exact hC.p 16 rfl | exact hC.p 18 rfl | exact hpr | exact e9 | exact e10 | rfl) ?_
    refine VW.iload_n (pc' := 26) d_F_recordAt_25 rfl rfl ?_
    refine VW.cV (ci := 2) (T := T2) (N := 5) (pc' := 29) d_F_recordAt_26 rfl mv_Log_keyOf lk_F_348 rfl (by first | exact hC.k 0 rfl | exact hC.k 9 rfl | exact hC.k 2 rfl | exact hC.k 3 rfl | exact hC.k 1 rfl | exact hx | exact hr | exact hG.1 | exact hC.st.1) rfl rfl rfl (by decide) (by decide) (spK) rfl rfl ?_
    refine VW.goto (pc' := 43) d_F_recordAt_29 rfl ?_
    exact VW.iret d_F_recordAt_43 rfl rfl (by decide) (by decide) (by first | exact ex_v (if_pos c15) | exact ex_v (if_neg c15))
theorem recordKind_no1 {d w q m : Nat} (hC : ClW K P) (hG : LgW K P 1192 d w q m) (hB : LgB I 1192 d w) (ha : ¬ (0 ≤ a ∧ a < I 1192 0)) : Sp m_F_recordKind true ({ frames := 12, cells := 1, slots := 6, locals := 400 } : Room) (ex K P J I (.inr eIOO)) K P J I [vR (some 1000), vI a] := by
  have spB : Sp m_Log_holds false (rmv 0 0) (ex K P J I (.inl (some (vI 0)))) K P J I [vR (some 1192), vI a] := by
    have := sp_Log_holds (J := J) (p := a) hG hB
    rw [bI0 ha] at this
    exact this
  refine Sp.ofV (by decide) (Or.inl rfl) rfl ?_
  refine VW.aload_n (pc' := 1) d_F_recordKind_0 rfl rfl ?_
  refine VW.gP (ci := 10) (T := T10) (N := 11) (k := 1) (k' := 1) (pc' := 4) d_F_recordKind_1 rfl lk_F_21 in10 rfl rfl rfl rfl (by first | exact hC.k 0 rfl | exact hC.k 9 rfl | exact hC.k 2 rfl | exact hC.k 3 rfl | exact hC.k 1 rfl | exact hx | exact hr | exact hG.1 | exact hC.st.1) (by first | exact hC.p 1 rfl | exact hC.p 0 rfl | exact hC.p 9 rfl | exact hC.p 8 rfl | exact hC.p 16 rfl | exact hC.p 18 rfl | exact hpr | exact e9 | exact e10 | rfl) ?_
  refine VW.gP (ci := 0) (T := T0) (N := 8) (k := 3) (k' := 3) (pc' := 7) d_F_recordKind_4 rfl lk_F_219 in0 rfl rfl rfl rfl (by first | exact hC.k 0 rfl | exact hC.k 9 rfl | exact hC.k 2 rfl | exact hC.k 3 rfl | exact hC.k 1 rfl | exact hx | exact hr | exact hG.1 | exact hC.st.1) (by first | exact hC.p 1 rfl | exact hC.p 0 rfl | exact hC.p 9 rfl | exact hC.p 8 rfl | exact hC.p 16 rfl | exact hC.p 18 rfl | exact hpr | exact e9 | exact e10 | rfl) ?_
  refine VW.iload_n (pc' := 8) d_F_recordKind_7 rfl rfl ?_
  refine VW.cV (ci := 2) (T := T2) (N := 5) (pc' := 11) d_F_recordKind_8 rfl mv_Log_holds lk_F_339 rfl (by first | exact hC.k 0 rfl | exact hC.k 9 rfl | exact hC.k 2 rfl | exact hC.k 3 rfl | exact hC.k 1 rfl | exact hx | exact hr | exact hG.1 | exact hC.st.1) rfl rfl rfl (by decide) (by decide) (spB) rfl rfl ?_
  refine VW.callSX (pc' := 14) d_F_recordKind_11 rfl (sp_F_demandPlace0) rfl ms_F_demandPlace.1 ms_F_demandPlace.2.1 rfl ms_F_demandPlace.2.2 lk_F_97 rfl rfl rfl (by decide) (by decide) (fun _ _ _ _ _ hz => ?_) (fun _ _ _ _ _ hz => by cases hz.1)
  obtain ⟨z1, z2, z3, z4, z5⟩ := hz
  cases z1
  replace z2 := z2.symm; replace z3 := z3.symm; replace z4 := z4.symm; replace z5 := z5.symm
  subst z2; subst z3; subst z4; subst z5
  exact Or.inl ⟨rfl, ex_rf⟩
  -- end
theorem recordOf_no1 {d w q m : Nat} (hC : ClW K P) (hG : LgW K P 1192 d w q m) (hB : LgB I 1192 d w) (ha : ¬ (0 ≤ a ∧ a < I 1192 0)) : Sp m_F_recordOf true ({ frames := 12, cells := 1, slots := 6, locals := 400 } : Room) (ex K P J I (.inr eIOO)) K P J I [vR (some 1000), vI a] := by
  have spB : Sp m_Log_holds false (rmv 0 0) (ex K P J I (.inl (some (vI 0)))) K P J I [vR (some 1192), vI a] := by
    have := sp_Log_holds (J := J) (p := a) hG hB
    rw [bI0 ha] at this
    exact this
  refine Sp.ofV (by decide) (Or.inl rfl) rfl ?_
  refine VW.aload_n (pc' := 1) d_F_recordOf_0 rfl rfl ?_
  refine VW.gP (ci := 10) (T := T10) (N := 11) (k := 1) (k' := 1) (pc' := 4) d_F_recordOf_1 rfl lk_F_21 in10 rfl rfl rfl rfl (by first | exact hC.k 0 rfl | exact hC.k 9 rfl | exact hC.k 2 rfl | exact hC.k 3 rfl | exact hC.k 1 rfl | exact hx | exact hr | exact hG.1 | exact hC.st.1) (by first | exact hC.p 1 rfl | exact hC.p 0 rfl | exact hC.p 9 rfl | exact hC.p 8 rfl | exact hC.p 16 rfl | exact hC.p 18 rfl | exact hpr | exact e9 | exact e10 | rfl) ?_
  refine VW.gP (ci := 0) (T := T0) (N := 8) (k := 3) (k' := 3) (pc' := 7) d_F_recordOf_4 rfl lk_F_219 in0 rfl rfl rfl rfl (by first | exact hC.k 0 rfl | exact hC.k 9 rfl | exact hC.k 2 rfl | exact hC.k 3 rfl | exact hC.k 1 rfl | exact hx | exact hr | exact hG.1 | exact hC.st.1) (by first | exact hC.p 1 rfl | exact hC.p 0 rfl | exact hC.p 9 rfl | exact hC.p 8 rfl | exact hC.p 16 rfl | exact hC.p 18 rfl | exact hpr | exact e9 | exact e10 | rfl) ?_
  refine VW.iload_n (pc' := 8) d_F_recordOf_7 rfl rfl ?_
  refine VW.cV (ci := 2) (T := T2) (N := 5) (pc' := 11) d_F_recordOf_8 rfl mv_Log_holds lk_F_339 rfl (by first | exact hC.k 0 rfl | exact hC.k 9 rfl | exact hC.k 2 rfl | exact hC.k 3 rfl | exact hC.k 1 rfl | exact hx | exact hr | exact hG.1 | exact hC.st.1) rfl rfl rfl (by decide) (by decide) (spB) rfl rfl ?_
  refine VW.callSX (pc' := 14) d_F_recordOf_11 rfl (sp_F_demandPlace0) rfl ms_F_demandPlace.1 ms_F_demandPlace.2.1 rfl ms_F_demandPlace.2.2 lk_F_97 rfl rfl rfl (by decide) (by decide) (fun _ _ _ _ _ hz => ?_) (fun _ _ _ _ _ hz => by cases hz.1)
  obtain ⟨z1, z2, z3, z4, z5⟩ := hz
  cases z1
  replace z2 := z2.symm; replace z3 := z3.symm; replace z4 := z4.symm; replace z5 := z5.symm
  subst z2; subst z3; subst z4; subst z5
  exact Or.inl ⟨rfl, ex_rf⟩
  -- end
theorem recordAt_no1 {d w q m : Nat} (hC : ClW K P) (hG : LgW K P 1192 d w q m) (hB : LgB I 1192 d w) (ha : ¬ (0 ≤ a ∧ a < I 1192 0)) : Sp m_F_recordAt true ({ frames := 12, cells := 1, slots := 6, locals := 400 } : Room) (ex K P J I (.inr eIOO)) K P J I [vR (some 1000), vI a, vI c] := by
  have spB : Sp m_Log_holds false (rmv 0 0) (ex K P J I (.inl (some (vI 0)))) K P J I [vR (some 1192), vI a] := by
    have := sp_Log_holds (J := J) (p := a) hG hB
    rw [bI0 ha] at this
    exact this
  refine Sp.ofV (by decide) (Or.inl rfl) rfl ?_
  refine VW.aload_n (pc' := 1) d_F_recordAt_0 rfl rfl ?_
  refine VW.gP (ci := 10) (T := T10) (N := 11) (k := 1) (k' := 1) (pc' := 4) d_F_recordAt_1 rfl lk_F_21 in10 rfl rfl rfl rfl (by first | exact hC.k 0 rfl | exact hC.k 9 rfl | exact hC.k 2 rfl | exact hC.k 3 rfl | exact hC.k 1 rfl | exact hx | exact hr | exact hG.1 | exact hC.st.1) (by first | exact hC.p 1 rfl | exact hC.p 0 rfl | exact hC.p 9 rfl | exact hC.p 8 rfl | exact hC.p 16 rfl | exact hC.p 18 rfl | exact hpr | exact e9 | exact e10 | rfl) ?_
  refine VW.gP (ci := 0) (T := T0) (N := 8) (k := 3) (k' := 3) (pc' := 7) d_F_recordAt_4 rfl lk_F_219 in0 rfl rfl rfl rfl (by first | exact hC.k 0 rfl | exact hC.k 9 rfl | exact hC.k 2 rfl | exact hC.k 3 rfl | exact hC.k 1 rfl | exact hx | exact hr | exact hG.1 | exact hC.st.1) (by first | exact hC.p 1 rfl | exact hC.p 0 rfl | exact hC.p 9 rfl | exact hC.p 8 rfl | exact hC.p 16 rfl | exact hC.p 18 rfl | exact hpr | exact e9 | exact e10 | rfl) ?_
  refine VW.iload_n (pc' := 8) d_F_recordAt_7 rfl rfl ?_
  refine VW.cV (ci := 2) (T := T2) (N := 5) (pc' := 11) d_F_recordAt_8 rfl mv_Log_holds lk_F_339 rfl (by first | exact hC.k 0 rfl | exact hC.k 9 rfl | exact hC.k 2 rfl | exact hC.k 3 rfl | exact hC.k 1 rfl | exact hx | exact hr | exact hG.1 | exact hC.st.1) rfl rfl rfl (by decide) (by decide) (spB) rfl rfl ?_
  refine VW.callSX (pc' := 14) d_F_recordAt_11 rfl (sp_F_demandPlace0) rfl ms_F_demandPlace.1 ms_F_demandPlace.2.1 rfl ms_F_demandPlace.2.2 lk_F_97 rfl rfl rfl (by decide) (by decide) (fun _ _ _ _ _ hz => ?_) (fun _ _ _ _ _ hz => by cases hz.1)
  obtain ⟨z1, z2, z3, z4, z5⟩ := hz
  cases z1
  replace z2 := z2.symm; replace z3 := z3.symm; replace z4 := z4.symm; replace z5 := z5.symm
  subst z2; subst z3; subst z4; subst z5
  exact Or.inl ⟨rfl, ex_rf⟩
  -- end
end
