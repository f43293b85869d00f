/-! RowForge.table, where it may be called; what it throws -/
section
variable {K : KT} {P : PT} {J I : IT} {n lq nq lqq : Nat} {lv mv : Nat → Nat} {x : Int}
theorem table_run (hC : ClW K P) (hL : EnL K P I n lq lv mv) (hQ : QnL K P I nq lqq) (hx : 1 ≤ x ∧ x ≤ 4) (h6 : I 1032 0 < 6) (hb : bI (0 < opN I n) = 0) (h6' : 0 ≤ dpI I nq 1032 0 ∧ dpI I nq 1032 0 < 6) : Sp m_F_table true ({ frames := 12, cells := 0, slots := 0, locals := 400 } : Room) (ex K P J (up2 (up2 (dpI I nq) 1034 (dpI I nq 1032 0) x) 1032 0 (dpI I nq 1032 0 + 1)) (.inl (some (vI (dpI I nq 1032 0 + 1 - 1))))) K P J I [vR (some 1000), vI x] := by
  have spB := sp_Engine_isBusy (J := J) hC hL
  rw [hb] at spB
  have spD := sp_F_dropPlans (J := J) hC hQ
  have spA := sp_Schema_addTable (J := J) (I := dpI I nq) (a := x) hC.sc h6'
  refine Sp.ofV (by decide) (Or.inl rfl) rfl ?_
  refine VW.iload_n (pc' := 1) d_F_table_0 rfl rfl ?_
  refine VW.iconst (pc' := 2) d_F_table_1 rfl (by decide) ?_
  refine VW.icmp_lt (tgt := 14) (pc' := 5) d_F_table_2 rfl rfl (fun c2 => ?_) (fun c2 => ?_)
  case refine_1 => exact absurd c2 (by omega)
  refine VW.iload_n (pc' := 6) d_F_table_5 rfl rfl ?_
  refine VW.iconst (pc' := 7) d_F_table_6 rfl (by decide) ?_
  refine VW.icmp_gt (tgt := 14) (pc' := 10) d_F_table_7 rfl rfl (fun c7 => ?_) (fun c7 => ?_)
  case refine_1 => exact absurd c7 (by omega)
  refine VW.iconst (pc' := 11) d_F_table_10 rfl (by decide) ?_
  refine VW.goto (pc' := 15) d_F_table_11 rfl ?_
  refine VW.callSX (pc' := 18) d_F_table_15 rfl (sp_F_demandRange1 (by decide)) rfl ms_F_demandRange.1 ms_F_demandRange.2.1 rfl ms_F_demandRange.2.2 lk_F_70 rfl rfl rfl (by decide) (by decide) (fun _ _ _ _ _ hz => by cases hz.1) (fun r _ _ _ _ hz => ?_)
  obtain ⟨z1, z2, z3, z4, z5⟩ := hz
  cases z1
  replace z2 := z2.symm; replace z3 := z3.symm; replace z4 := z4.symm; replace z5 := z5.symm
  subst z2; subst z3; subst z4; subst z5
  refine VW.aload_n (pc' := 19) d_F_table_18 rfl rfl ?_
  refine VW.gP (ci := 10) (T := T10) (N := 11) (k := 0) (k' := 0) (pc' := 22) d_F_table_19 rfl lk_F_12 in10 rfl rfl rfl rfl (by first | exact hC.k 0 rfl | exact hC.k 9 rfl | exact hC.k 2 rfl | exact hC.k 4 rfl | exact hC.st.1 | exact hC.sc.1) (by first | exact hC.p 1 rfl | exact hC.p 0 rfl | exact hC.p 10 rfl | exact hC.p 16 rfl | rfl) ?_
  refine VW.gI (ci := 7) (T := T7) (N := 8) (k := 0) (k' := 0) (pc' := 25) d_F_table_22 rfl lk_F_74 in7 rfl rfl rfl rfl (by first | exact hC.k 0 rfl | exact hC.k 9 rfl | exact hC.k 2 rfl | exact hC.k 4 rfl | exact hC.st.1 | exact hC.sc.1) (by first | exact hC.p 1 rfl | exact hC.p 0 rfl | exact hC.p 10 rfl | exact hC.p 16 rfl | rfl) ?_
  refine VW.bipush (pc' := 27) d_F_table_25 rfl (by decide) ?_
  refine VW.icmp_ge (tgt := 44) (pc' := 30) d_F_table_27 rfl rfl (fun c27 => ?_) (fun c27 => ?_)
  case refine_1 => exact absurd c27 (by omega)
  refine VW.aload_n (pc' := 31) d_F_table_30 rfl rfl ?_
  refine VW.gP (ci := 10) (T := T10) (N := 11) (k := 1) (k' := 1) (pc' := 34) d_F_table_31 rfl lk_F_21 in10 rfl rfl rfl rfl (by first | exact hC.k 0 rfl | exact hC.k 9 rfl | exact hC.k 2 rfl | exact hC.k 4 rfl | exact hC.st.1 | exact hC.sc.1) (by first | exact hC.p 1 rfl | exact hC.p 0 rfl | exact hC.p 10 rfl | exact hC.p 16 rfl | rfl) ?_
  refine VW.cV (ci := 0) (T := T0) (N := 8) (pc' := 37) d_F_table_34 rfl mv_Engine_isBusy lk_F_78 rfl (by first | exact hC.k 0 rfl | exact hC.k 9 rfl | exact hC.k 2 rfl | exact hC.k 4 rfl | exact hC.st.1 | exact hC.sc.1) rfl rfl rfl (by decide) (by decide) (spB) rfl rfl ?_
  refine VW.if_ne (tgt := 44) (pc' := 40) d_F_table_37 rfl rfl (fun c37 => ?_) (fun c37 => ?_)
  case refine_1 => exact absurd c37 (by decide)
  refine VW.iconst (pc' := 41) d_F_table_40 rfl (by decide) ?_
  refine VW.goto (pc' := 45) d_F_table_41 rfl ?_
  refine VW.callSX (pc' := 48) d_F_table_45 rfl (sp_F_demandState1 (by decide)) rfl ms_F_demandState.1 ms_F_demandState.2.1 rfl ms_F_demandState.2.2 lk_F_82 rfl rfl rfl (by decide) (by decide) (fun _ _ _ _ _ hz => by cases hz.1) (fun r _ _ _ _ hz => ?_)
  obtain ⟨z1, z2, z3, z4, z5⟩ := hz
  cases z1
  replace z2 := z2.symm; replace z3 := z3.symm; replace z4 := z4.symm; replace z5 := z5.symm
  subst z2; subst z3; subst z4; subst z5
  refine VW.aload_n (pc' := 49) d_F_table_48 rfl rfl ?_
  refine VW.cV (ci := 10) (T := T10) (N := 11) (pc' := 52) d_F_table_49 rfl mv_F_dropPlans lk_F_85 rfl (by first | exact hC.k 0 rfl | exact hC.k 9 rfl | exact hC.k 2 rfl | exact hC.k 4 rfl | exact hC.st.1 | exact hC.sc.1) rfl rfl rfl (by decide) (by decide) (spD) rfl rfl ?_
  refine VW.pop (pc' := 53) d_F_table_52 rfl rfl ?_
  refine VW.aload_n (pc' := 54) d_F_table_53 rfl rfl ?_
  refine VW.gP (ci := 10) (T := T10) (N := 11) (k := 0) (k' := 0) (pc' := 57) d_F_table_54 rfl lk_F_12 in10 rfl rfl rfl rfl (by first | exact hC.k 0 rfl | exact hC.k 9 rfl | exact hC.k 2 rfl | exact hC.k 4 rfl | exact hC.st.1 | exact hC.sc.1) (by first | exact hC.p 1 rfl | exact hC.p 0 rfl | exact hC.p 10 rfl | exact hC.p 16 rfl | rfl) ?_
  refine VW.iload_n (pc' := 58) d_F_table_57 rfl rfl ?_
  refine VW.cV (ci := 7) (T := T7) (N := 8) (pc' := 61) d_F_table_58 rfl mv_Schema_addTable lk_F_89 rfl (by first | exact hC.k 0 rfl | exact hC.k 9 rfl | exact hC.k 2 rfl | exact hC.k 4 rfl | exact hC.st.1 | exact hC.sc.1) rfl rfl rfl (by decide) (by decide) (spA) rfl rfl ?_
  exact VW.iret d_F_table_61 rfl rfl (by decide) (by decide) ex_rf
theorem table_no1 (hC : ClW K P) (hx : ¬ (1 ≤ x ∧ x ≤ 4)) : Sp m_F_table true ({ frames := 12, cells := 1, slots := 6, locals := 400 } : Room) (ex K P J I (.inr eIAE)) K P J I [vR (some 1000), vI x] := by
  refine Sp.ofV (by decide) (Or.inl rfl) rfl ?_
  refine VW.iload_n (pc' := 1) d_F_table_0 rfl rfl ?_
  refine VW.iconst (pc' := 2) d_F_table_1 rfl (by decide) ?_
  refine VW.icmp_lt (tgt := 14) (pc' := 5) d_F_table_2 rfl rfl (fun c2 => ?_) (fun c2 => ?_)
  · refine VW.iconst (pc' := 15) d_F_table_14 rfl (by decide) ?_
    refine VW.callSX (pc' := 18) d_F_table_15 rfl (sp_F_demandRange0) rfl ms_F_demandRange.1 ms_F_demandRange.2.1 rfl ms_F_demandRange.2.2 lk_F_70 rfl rfl rfl (by decide) (by decide) (fun _ _ _ _ _ hz => ?_) (fun _ _ _ _ _ hz => by cases hz.1)
    obtain ⟨z1, z2, z3, z4, z5⟩ := hz
    cases z1
    replace z2 := z2.symm; replace z3 := z3.symm; replace z4 := z4.symm; replace z5 := z5.symm
    subst z2; subst z3; subst z4; subst z5
    exact Or.inl ⟨rfl, ex_rf⟩
    -- end
  · refine VW.iload_n (pc' := 6) d_F_table_5 rfl rfl ?_
    refine VW.iconst (pc' := 7) d_F_table_6 rfl (by decide) ?_
    refine VW.icmp_gt (tgt := 14) (pc' := 10) d_F_table_7 rfl rfl (fun c7 => ?_) (fun c7 => ?_)
    · refine VW.iconst (pc' := 15) d_F_table_14 rfl (by decide) ?_
      refine VW.callSX (pc' := 18) d_F_table_15 rfl (sp_F_demandRange0) rfl ms_F_demandRange.1 ms_F_demandRange.2.1 rfl ms_F_demandRange.2.2 lk_F_70 rfl rfl rfl (by decide) (by decide) (fun _ _ _ _ _ hz => ?_) (fun _ _ _ _ _ hz => by cases hz.1)
      obtain ⟨z1, z2, z3, z4, z5⟩ := hz
      cases z1
      replace z2 := z2.symm; replace z3 := z3.symm; replace z4 := z4.symm; replace z5 := z5.symm
      subst z2; subst z3; subst z4; subst z5
      exact Or.inl ⟨rfl, ex_rf⟩
      -- end
    · refine VW.nrm ?_
      exact absurd (show 1 ≤ x ∧ x ≤ 4 by omega) hx
theorem table_no2 (hC : ClW K P) (hL : EnL K P I n lq lv mv) (hx : 1 ≤ x ∧ x ≤ 4) (h : ¬ (I 1032 0 < 6 ∧ ¬ 0 < opN I n)) : Sp m_F_table true ({ frames := 12, cells := 1, slots := 6, locals := 400 } : Room) (ex K P J I (.inr eISE)) K P J I [vR (some 1000), vI x] := by
  have spB := sp_Engine_isBusy (J := J) hC hL
  refine Sp.ofV (by decide) (Or.inl rfl) rfl ?_
  refine VW.iload_n (pc' := 1) d_F_table_0 rfl rfl ?_
  refine VW.iconst (pc' := 2) d_F_table_1 rfl (by decide) ?_
  refine VW.icmp_lt (tgt := 14) (pc' := 5) d_F_table_2 rfl rfl (fun c2 => ?_) (fun c2 => ?_)
  case refine_1 => exact absurd c2 (by omega)
  refine VW.iload_n (pc' := 6) d_F_table_5 rfl rfl ?_
  refine VW.iconst (pc' := 7) d_F_table_6 rfl (by decide) ?_
  refine VW.icmp_gt (tgt := 14) (pc' := 10) d_F_table_7 rfl rfl (fun c7 => ?_) (fun c7 => ?_)
  case refine_1 => exact absurd c7 (by omega)
  refine VW.iconst (pc' := 11) d_F_table_10 rfl (by decide) ?_
  refine VW.goto (pc' := 15) d_F_table_11 rfl ?_
  refine VW.callSX (pc' := 18) d_F_table_15 rfl (sp_F_demandRange1 (by decide)) rfl ms_F_demandRange.1 ms_F_demandRange.2.1 rfl ms_F_demandRange.2.2 lk_F_70 rfl rfl rfl (by decide) (by decide) (fun _ _ _ _ _ hz => by cases hz.1) (fun r _ _ _ _ hz => ?_)
  obtain ⟨z1, z2, z3, z4, z5⟩ := hz
  cases z1
  replace z2 := z2.symm; replace z3 := z3.symm; replace z4 := z4.symm; replace z5 := z5.symm
  subst z2; subst z3; subst z4; subst z5
  refine VW.aload_n (pc' := 19) d_F_table_18 rfl rfl ?_
  refine VW.gP (ci := 10) (T := T10) (N := 11) (k := 0) (k' := 0) (pc' := 22) d_F_table_19 rfl lk_F_12 in10 rfl rfl rfl rfl (by first | exact hC.k 0 rfl | exact hC.k 9 rfl | exact hC.k 2 rfl | exact hC.k 4 rfl | exact hC.st.1 | exact hC.sc.1) (by first | exact hC.p 1 rfl | exact hC.p 0 rfl | exact hC.p 10 rfl | exact hC.p 16 rfl | rfl) ?_
  refine VW.gI (ci := 7) (T := T7) (N := 8) (k := 0) (k' := 0) (pc' := 25) d_F_table_22 rfl lk_F_74 in7 rfl rfl rfl rfl (by first | exact hC.k 0 rfl | exact hC.k 9 rfl | exact hC.k 2 rfl | exact hC.k 4 rfl | exact hC.st.1 | exact hC.sc.1) (by first | exact hC.p 1 rfl | exact hC.p 0 rfl | exact hC.p 10 rfl | exact hC.p 16 rfl | rfl) ?_
  refine VW.bipush (pc' := 27) d_F_table_25 rfl (by decide) ?_
  refine VW.icmp_ge (tgt := 44) (pc' := 30) d_F_table_27 rfl rfl (fun c27 => ?_) (fun c27 => ?_)
  · refine VW.iconst (pc' := 45) d_F_table_44 rfl (by decide) ?_
    refine VW.callSX (pc' := 48) d_F_table_45 rfl (sp_F_demandState0) rfl ms_F_demandState.1 ms_F_demandState.2.1 rfl ms_F_demandState.2.2 lk_F_82 rfl rfl rfl (by decide) (by decide) (fun _ _ _ _ _ hz => ?_) (fun _ _ _ _ _ hz => by cases hz.1)
    obtain ⟨z1, z2, z3, z4, z5⟩ := hz
    cases z1
    replace z2 := z2.symm; replace z3 := z3.symm; replace z4 := z4.symm; replace z5 := z5.symm
    subst z2; subst z3; subst z4; subst z5
    exact Or.inl ⟨rfl, ex_rf⟩
    -- end
  · refine VW.aload_n (pc' := 31) d_F_table_30 rfl rfl ?_
    refine VW.gP (ci := 10) (T := T10) (N := 11) (k := 1) (k' := 1) (pc' := 34) d_F_table_31 rfl lk_F_21 in10 rfl rfl rfl rfl (by first | exact hC.k 0 rfl | exact hC.k 9 rfl | exact hC.k 2 rfl | exact hC.k 4 rfl | exact hC.st.1 | exact hC.sc.1) (by first | exact hC.p 1 rfl | exact hC.p 0 rfl | exact hC.p 10 rfl | exact hC.p 16 rfl | rfl) ?_
    refine VW.cV (ci := 0) (T := T0) (N := 8) (pc' := 37) d_F_table_34 rfl mv_Engine_isBusy lk_F_78 rfl (by first | exact hC.k 0 rfl | exact hC.k 9 rfl | exact hC.k 2 rfl | exact hC.k 4 rfl | exact hC.st.1 | exact hC.sc.1) rfl rfl rfl (by decide) (by decide) (spB) rfl rfl ?_
    refine VW.if_ne (tgt := 44) (pc' := 40) d_F_table_37 rfl rfl (fun c37 => ?_) (fun c37 => ?_)
    · try have e37 := bIn c37
      refine VW.iconst (pc' := 45) d_F_table_44 rfl (by decide) ?_
      refine VW.callSX (pc' := 48) d_F_table_45 rfl (sp_F_demandState0) rfl ms_F_demandState.1 ms_F_demandState.2.1 rfl ms_F_demandState.2.2 lk_F_82 rfl rfl rfl (by decide) (by decide) (fun _ _ _ _ _ hz => ?_) (fun _ _ _ _ _ hz => by cases hz.1)
      obtain ⟨z1, z2, z3, z4, z5⟩ := hz
      cases z1
      replace z2 := z2.symm; replace z3 := z3.symm; replace z4 := z4.symm; replace z5 := z5.symm
      subst z2; subst z3; subst z4; subst z5
      exact Or.inl ⟨rfl, ex_rf⟩
      -- end
    · try have e37 := bIe c37
      refine VW.nrm ?_
      exact absurd ⟨by omega, e37⟩ h
end
