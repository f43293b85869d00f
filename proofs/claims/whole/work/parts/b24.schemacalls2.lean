/-! check (its state), refer, veil -/
section
variable {K : KT} {P : PT} {J I : IT} {n lq nq lqq : Nat} {lv mv : Nat → Nat} {r t c w v o : Int}
theorem F_isCmp1 (h : 0 ≤ w ∧ w ≤ 2) : Sp m_F_isComparison false (rmv 0 0) (ex K P J I (.inl (some (vI 1)))) K P J I [vI w] := by
  have := sp_F_isComparison (K := K) (P := P) (J := J) (I := I) (a := w)
  rw [bI1 h] at this
  exact this
theorem F_isNum1 (h : -1000 ≤ v ∧ v ≤ 1000) : Sp m_F_isNumber false (rmv 0 0) (ex K P J I (.inl (some (vI 1)))) K P J I [vI v] := by
  have := sp_F_isNumber (K := K) (P := P) (J := J) (I := I) (a := v)
  rw [bI1 h] at this
  exact this
theorem F_hasCol1 (hC : ClW K P) (h6 : I 1032 0 ≤ 6) (hc : (0 ≤ t ∧ t < I 1032 0) ∧ 0 ≤ c ∧ c < I 1034 t) : Sp m_Schema_hasColumn false (rmv 1 21) (ex K P J I (.inl (some (vI 1)))) K P J I [vR (some 1032), vI t, vI c] := by
  have := sp_Schema_hasColumn (J := J) (I := I) (a := t) (b := c) hC.sc h6
  rw [bI1 hc] at this
  exact this
theorem F_hasTab1 (hC : ClW K P) (ho : 0 ≤ o ∧ o < I 1032 0) : Sp m_Schema_hasTable false (rmv 0 0) (ex K P J I (.inl (some (vI 1)))) K P J I [vR (some 1032), vI o] := by
  have := sp_Schema_hasTable (J := J) (I := I) (a := o) hC.sc
  rw [bI1 ho] at this
  exact this
theorem check_no3 (hC : ClW K P) (hL : EnL K P I n lq lv mv) (h6 : I 1032 0 ≤ 6) (hc : (0 ≤ t ∧ t < I 1032 0) ∧ 0 ≤ c ∧ c < I 1034 t) (hw : 0 ≤ w ∧ w ≤ 2) (hv : -1000 ≤ v ∧ v ≤ 1000) (h : ¬ (I 1035 t < 4 ∧ rwCnt I 1161 t 8 = 0 ∧ ¬ 0 < opN I n)) : Sp m_F_check true ({ frames := 12, cells := 1, slots := 6, locals := 400 } : Room) (ex K P J I (.inr eISE)) K P J I [vR (some 1000), vI t, vI c, vI w, vI v] := by
  have spU := sp_Engine_isBusy (J := J) hC hL
  have spN := sp_Rows_count (J := J) (I := I) (t := t) hC.st ⟨hc.1.1, by omega⟩
  refine Sp.ofV (by decide) (Or.inl rfl) rfl ?_
  refine VW.aload_n (pc' := 1) d_F_check_0 rfl rfl ?_
  refine VW.gP (ci := 10) (T := T10) (N := 11) (k := 0) (k' := 0) (pc' := 4) d_F_check_1 rfl lk_F_12 in10 rfl rfl rfl rfl (by first | exact hC.k 0 rfl | exact hC.k 9 rfl | exact hC.k 2 rfl | exact hC.k 4 rfl | exact hC.st.1 | exact hC.sc.1) (by first | exact hC.p 1 rfl | exact hC.p 0 rfl | exact hC.p 10 rfl | exact hC.p 16 rfl | rfl) ?_
  refine VW.iload_n (pc' := 5) d_F_check_4 rfl rfl ?_
  refine VW.iload_n (pc' := 6) d_F_check_5 rfl rfl ?_
  refine VW.cV (ci := 7) (T := T7) (N := 8) (pc' := 9) d_F_check_6 rfl mv_Schema_hasColumn lk_F_93 rfl (by first | exact hC.k 0 rfl | exact hC.k 9 rfl | exact hC.k 2 rfl | exact hC.k 4 rfl | exact hC.st.1 | exact hC.sc.1) rfl rfl rfl (by decide) (by decide) (F_hasCol1 hC h6 hc) rfl rfl ?_
  refine VW.callSX (pc' := 12) d_F_check_9 rfl (sp_F_demandPlace1 (by decide)) rfl ms_F_demandPlace.1 ms_F_demandPlace.2.1 rfl ms_F_demandPlace.2.2 lk_F_97 rfl rfl rfl (by decide) (by decide) (fun _ _ _ _ _ hz => by cases hz.1) (fun r _ _ _ _ hz => ?_)
  obtain ⟨z1, z2, z3, z4, z5⟩ := hz
  cases z1
  replace z2 := z2.symm; replace z3 := z3.symm; replace z4 := z4.symm; replace z5 := z5.symm
  subst z2; subst z3; subst z4; subst z5
  refine VW.iload_n (pc' := 13) d_F_check_12 rfl rfl ?_
  refine VW.cS (pc' := 16) d_F_check_13 rfl ms_F_isComparison lk_F_100 rfl rfl rfl (by decide) (by decide) (F_isCmp1 hw) rfl rfl ?_
  refine VW.if_eq (tgt := 31) (pc' := 19) d_F_check_16 rfl rfl (fun c16 => ?_) (fun c16 => ?_)
  case refine_1 => exact absurd c16 (by decide)
  refine VW.iload (pc' := 21) d_F_check_19 rfl rfl ?_
  refine VW.cS (pc' := 24) d_F_check_21 rfl ms_F_isNumber lk_F_104 rfl rfl rfl (by decide) (by decide) (F_isNum1 hv) rfl rfl ?_
  refine VW.if_eq (tgt := 31) (pc' := 27) d_F_check_24 rfl rfl (fun c24 => ?_) (fun c24 => ?_)
  case refine_1 => exact absurd c24 (by decide)
  refine VW.iconst (pc' := 28) d_F_check_27 rfl (by decide) ?_
  refine VW.goto (pc' := 32) d_F_check_28 rfl ?_
  refine VW.callSX (pc' := 35) d_F_check_32 rfl (sp_F_demandRange1 (by decide)) rfl ms_F_demandRange.1 ms_F_demandRange.2.1 rfl ms_F_demandRange.2.2 lk_F_70 rfl rfl rfl (by decide) (by decide) (fun _ _ _ _ _ hz => by cases hz.1) (fun r _ _ _ _ hz => ?_)
  obtain ⟨z1, z2, z3, z4, z5⟩ := hz
  cases z1
  replace z2 := z2.symm; replace z3 := z3.symm; replace z4 := z4.symm; replace z5 := z5.symm
  subst z2; subst z3; subst z4; subst z5
  refine VW.aload_n (pc' := 36) d_F_check_35 rfl rfl ?_
  refine VW.gP (ci := 10) (T := T10) (N := 11) (k := 0) (k' := 0) (pc' := 39) d_F_check_36 rfl lk_F_12 in10 rfl rfl rfl rfl (by first | exact hC.k 0 rfl | exact hC.k 9 rfl | exact hC.k 2 rfl | exact hC.k 4 rfl | exact hC.st.1 | exact hC.sc.1) (by first | exact hC.p 1 rfl | exact hC.p 0 rfl | exact hC.p 10 rfl | exact hC.p 16 rfl | rfl) ?_
  refine VW.gP (ci := 7) (T := T7) (N := 8) (k := 2) (k' := 2) (pc' := 42) d_F_check_39 rfl lk_F_107 in7 rfl rfl rfl rfl (by first | exact hC.k 0 rfl | exact hC.k 9 rfl | exact hC.k 2 rfl | exact hC.k 4 rfl | exact hC.st.1 | exact hC.sc.1) (by first | exact hC.p 1 rfl | exact hC.p 0 rfl | exact hC.p 10 rfl | exact hC.p 16 rfl | rfl) ?_
  refine VW.iload_n (pc' := 43) d_F_check_42 rfl rfl ?_
  refine VW.ild (pc' := 44) d_F_check_43 rfl (by first | exact hC.k 0 rfl | exact hC.k 9 rfl | exact hC.k 2 rfl | exact hC.k 4 rfl | exact hC.st.1 | exact hC.sc.1) (by omega) (by omega) (by first | exact hC.p 1 rfl | exact hC.p 0 rfl | exact hC.p 10 rfl | exact hC.p 16 rfl | rfl) ?_
  refine VW.iconst (pc' := 45) d_F_check_44 rfl (by decide) ?_
  refine VW.icmp_ge (tgt := 76) (pc' := 48) d_F_check_45 rfl rfl (fun c45 => ?_) (fun c45 => ?_)
  · refine VW.iconst (pc' := 77) d_F_check_76 rfl (by decide) ?_
    refine VW.callSX (pc' := 80) d_F_check_77 rfl (sp_F_demandState0) rfl ms_F_demandState.1 ms_F_demandState.2.1 rfl ms_F_demandState.2.2 lk_F_82 rfl rfl rfl (by decide) (by decide) (fun _ _ _ _ _ hz => ?_) (fun _ _ _ _ _ hz => by cases hz.1)
    obtain ⟨z1, z2, z3, z4, z5⟩ := hz
    cases z1
    replace z2 := z2.symm; replace z3 := z3.symm; replace z4 := z4.symm; replace z5 := z5.symm
    subst z2; subst z3; subst z4; subst z5
    exact Or.inl ⟨rfl, ex_rf⟩
    -- end
  · refine VW.aload_n (pc' := 49) d_F_check_48 rfl rfl ?_
    refine VW.gP (ci := 10) (T := T10) (N := 11) (k := 1) (k' := 1) (pc' := 52) d_F_check_49 rfl lk_F_21 in10 rfl rfl rfl rfl (by first | exact hC.k 0 rfl | exact hC.k 9 rfl | exact hC.k 2 rfl | exact hC.k 4 rfl | exact hC.st.1 | exact hC.sc.1) (by first | exact hC.p 1 rfl | exact hC.p 0 rfl | exact hC.p 10 rfl | exact hC.p 16 rfl | rfl) ?_
    refine VW.gP (ci := 0) (T := T0) (N := 8) (k := 1) (k' := 1) (pc' := 55) d_F_check_52 rfl lk_F_110 in0 rfl rfl rfl rfl (by first | exact hC.k 0 rfl | exact hC.k 9 rfl | exact hC.k 2 rfl | exact hC.k 4 rfl | exact hC.st.1 | exact hC.sc.1) (by first | exact hC.p 1 rfl | exact hC.p 0 rfl | exact hC.p 10 rfl | exact hC.p 16 rfl | rfl) ?_
    refine VW.iload_n (pc' := 56) d_F_check_55 rfl rfl ?_
    refine VW.cV (ci := 6) (T := T6) (N := 1) (pc' := 59) d_F_check_56 rfl mv_Rows_count lk_F_114 rfl (by first | exact hC.k 0 rfl | exact hC.k 9 rfl | exact hC.k 2 rfl | exact hC.k 4 rfl | exact hC.st.1 | exact hC.sc.1) rfl rfl rfl (by decide) (by decide) (spN) rfl rfl ?_
    refine VW.if_ne (tgt := 76) (pc' := 62) d_F_check_59 rfl rfl (fun c59 => ?_) (fun c59 => ?_)
    · try have e59 := bIn c59
      refine VW.iconst (pc' := 77) d_F_check_76 rfl (by decide) ?_
      refine VW.callSX (pc' := 80) d_F_check_77 rfl (sp_F_demandState0) rfl ms_F_demandState.1 ms_F_demandState.2.1 rfl ms_F_demandState.2.2 lk_F_82 rfl rfl rfl (by decide) (by decide) (fun _ _ _ _ _ hz => ?_) (fun _ _ _ _ _ hz => by cases hz.1)
      obtain ⟨z1, z2, z3, z4, z5⟩ := hz
      cases z1
      replace z2 := z2.symm; replace z3 := z3.symm; replace z4 := z4.symm; replace z5 := z5.symm
      subst z2; subst z3; subst z4; subst z5
      exact Or.inl ⟨rfl, ex_rf⟩
      -- end
    · try have e59 := bIe c59
      refine VW.aload_n (pc' := 63) d_F_check_62 rfl rfl ?_
      refine VW.gP (ci := 10) (T := T10) (N := 11) (k := 1) (k' := 1) (pc' := 66) d_F_check_63 rfl lk_F_21 in10 rfl rfl rfl rfl (by first | exact hC.k 0 rfl | exact hC.k 9 rfl | exact hC.k 2 rfl | exact hC.k 4 rfl | exact hC.st.1 | exact hC.sc.1) (by first | exact hC.p 1 rfl | exact hC.p 0 rfl | exact hC.p 10 rfl | exact hC.p 16 rfl | rfl) ?_
      refine VW.cV (ci := 0) (T := T0) (N := 8) (pc' := 69) d_F_check_66 rfl mv_Engine_isBusy lk_F_78 rfl (by first | exact hC.k 0 rfl | exact hC.k 9 rfl | exact hC.k 2 rfl | exact hC.k 4 rfl | exact hC.st.1 | exact hC.sc.1) rfl rfl rfl (by decide) (by decide) (spU) rfl rfl ?_
      refine VW.if_ne (tgt := 76) (pc' := 72) d_F_check_69 rfl rfl (fun c69 => ?_) (fun c69 => ?_)
      · try have e69 := bIn c69
        refine VW.iconst (pc' := 77) d_F_check_76 rfl (by decide) ?_
        refine VW.callSX (pc' := 80) d_F_check_77 rfl (sp_F_demandState0) rfl ms_F_demandState.1 ms_F_demandState.2.1 rfl ms_F_demandState.2.2 lk_F_82 rfl rfl rfl (by decide) (by decide) (fun _ _ _ _ _ hz => ?_) (fun _ _ _ _ _ hz => by cases hz.1)
        obtain ⟨z1, z2, z3, z4, z5⟩ := hz
        cases z1
        replace z2 := z2.symm; replace z3 := z3.symm; replace z4 := z4.symm; replace z5 := z5.symm
        subst z2; subst z3; subst z4; subst z5
        exact Or.inl ⟨rfl, ex_rf⟩
        -- end
      · try have e69 := bIe c69
        refine VW.nrm ?_
        exact absurd ⟨by omega, by omega, e69⟩ h
theorem refer_no1 (hC : ClW K P) (h6 : I 1032 0 ≤ 6) (h : ¬ ((((0 ≤ t ∧ t < I 1032 0) ∧ 0 ≤ c ∧ c < I 1034 t) ∧ c ≠ 0) ∧ 0 ≤ o ∧ o < I 1032 0)) : Sp m_F_refer true ({ frames := 12, cells := 1, slots := 6, locals := 400 } : Room) (ex K P J I (.inr eIOO)) K P J I [vR (some 1000), vI t, vI c, vI o, vI r] := by
  have spB := sp_Schema_hasColumn (J := J) (I := I) (a := t) (b := c) hC.sc h6
  have spT := sp_Schema_hasTable (J := J) (I := I) (a := o) hC.sc
  refine Sp.ofV (by decide) (Or.inl rfl) rfl ?_
  refine VW.aload_n (pc' := 1) d_F_refer_0 rfl rfl ?_
  refine VW.gP (ci := 10) (T := T10) (N := 11) (k := 0) (k' := 0) (pc' := 4) d_F_refer_1 rfl lk_F_12 in10 rfl rfl rfl rfl (by first | exact hC.k 0 rfl | exact hC.k 9 rfl | exact hC.k 2 rfl | exact hC.k 4 rfl | exact hC.st.1 | exact hC.sc.1) (by first | exact hC.p 1 rfl | exact hC.p 0 rfl | exact hC.p 10 rfl | exact hC.p 16 rfl | rfl) ?_
  refine VW.iload_n (pc' := 5) d_F_refer_4 rfl rfl ?_
  refine VW.iload_n (pc' := 6) d_F_refer_5 rfl rfl ?_
  refine VW.cV (ci := 7) (T := T7) (N := 8) (pc' := 9) d_F_refer_6 rfl mv_Schema_hasColumn lk_F_93 rfl (by first | exact hC.k 0 rfl | exact hC.k 9 rfl | exact hC.k 2 rfl | exact hC.k 4 rfl | exact hC.st.1 | exact hC.sc.1) rfl rfl rfl (by decide) (by decide) (spB) rfl rfl ?_
  refine VW.if_eq (tgt := 31) (pc' := 12) d_F_refer_9 rfl rfl (fun c9 => ?_) (fun c9 => ?_)
  · try have e9 := bIe c9
    refine VW.iconst (pc' := 32) d_F_refer_31 rfl (by decide) ?_
    refine VW.callSX (pc' := 35) d_F_refer_32 rfl (sp_F_demandPlace0) rfl ms_F_demandPlace.1 ms_F_demandPlace.2.1 rfl ms_F_demandPlace.2.2 lk_F_97 rfl rfl rfl (by decide) (by decide) (fun _ _ _ _ _ hz => ?_) (fun _ _ _ _ _ hz => by cases hz.1)
    obtain ⟨z1, z2, z3, z4, z5⟩ := hz
    cases z1
    replace z2 := z2.symm; replace z3 := z3.symm; replace z4 := z4.symm; replace z5 := z5.symm
    subst z2; subst z3; subst z4; subst z5
    exact Or.inl ⟨rfl, ex_rf⟩
    -- end
  · try have e9 := bIn c9
    refine VW.iload_n (pc' := 13) d_F_refer_12 rfl rfl ?_
    refine VW.if_eq (tgt := 31) (pc' := 16) d_F_refer_13 rfl rfl (fun c13 => ?_) (fun c13 => ?_)
    · try have e13 := bIe c13
      refine VW.iconst (pc' := 32) d_F_refer_31 rfl (by decide) ?_
      refine VW.callSX (pc' := 35) d_F_refer_32 rfl (sp_F_demandPlace0) rfl ms_F_demandPlace.1 ms_F_demandPlace.2.1 rfl ms_F_demandPlace.2.2 lk_F_97 rfl rfl rfl (by decide) (by decide) (fun _ _ _ _ _ hz => ?_) (fun _ _ _ _ _ hz => by cases hz.1)
      obtain ⟨z1, z2, z3, z4, z5⟩ := hz
      cases z1
      replace z2 := z2.symm; replace z3 := z3.symm; replace z4 := z4.symm; replace z5 := z5.symm
      subst z2; subst z3; subst z4; subst z5
      exact Or.inl ⟨rfl, ex_rf⟩
      -- end
    · try have e13 := bIn c13
      refine VW.aload_n (pc' := 17) d_F_refer_16 rfl rfl ?_
      refine VW.gP (ci := 10) (T := T10) (N := 11) (k := 0) (k' := 0) (pc' := 20) d_F_refer_17 rfl lk_F_12 in10 rfl rfl rfl rfl (by first | exact hC.k 0 rfl | exact hC.k 9 rfl | exact hC.k 2 rfl | exact hC.k 4 rfl | exact hC.st.1 | exact hC.sc.1) (by first | exact hC.p 1 rfl | exact hC.p 0 rfl | exact hC.p 10 rfl | exact hC.p 16 rfl | rfl) ?_
      refine VW.iload_n (pc' := 21) d_F_refer_20 rfl rfl ?_
      refine VW.cV (ci := 7) (T := T7) (N := 8) (pc' := 24) d_F_refer_21 rfl mv_Schema_hasTable lk_F_123 rfl (by first | exact hC.k 0 rfl | exact hC.k 9 rfl | exact hC.k 2 rfl | exact hC.k 4 rfl | exact hC.st.1 | exact hC.sc.1) rfl rfl rfl (by decide) (by decide) (spT) rfl rfl ?_
      refine VW.if_eq (tgt := 31) (pc' := 27) d_F_refer_24 rfl rfl (fun c24 => ?_) (fun c24 => ?_)
      · try have e24 := bIe c24
        refine VW.iconst (pc' := 32) d_F_refer_31 rfl (by decide) ?_
        refine VW.callSX (pc' := 35) d_F_refer_32 rfl (sp_F_demandPlace0) rfl ms_F_demandPlace.1 ms_F_demandPlace.2.1 rfl ms_F_demandPlace.2.2 lk_F_97 rfl rfl rfl (by decide) (by decide) (fun _ _ _ _ _ hz => ?_) (fun _ _ _ _ _ hz => by cases hz.1)
        obtain ⟨z1, z2, z3, z4, z5⟩ := hz
        cases z1
        replace z2 := z2.symm; replace z3 := z3.symm; replace z4 := z4.symm; replace z5 := z5.symm
        subst z2; subst z3; subst z4; subst z5
        exact Or.inl ⟨rfl, ex_rf⟩
        -- end
      · try have e24 := bIn c24
        refine VW.nrm ?_
        exact absurd ⟨⟨e9, c13⟩, e24⟩ h
theorem refer_no2 (hC : ClW K P) (h6 : I 1032 0 ≤ 6) (hp : ((((0 ≤ t ∧ t < I 1032 0) ∧ 0 ≤ c ∧ c < I 1034 t) ∧ c ≠ 0) ∧ 0 ≤ o ∧ o < I 1032 0)) (h : ¬ (0 ≤ r ∧ r ≤ 2)) : Sp m_F_refer true ({ frames := 12, cells := 1, slots := 6, locals := 400 } : Room) (ex K P J I (.inr eIAE)) K P J I [vR (some 1000), vI t, vI c, vI o, vI r] := by
  refine Sp.ofV (by decide) (Or.inl rfl) rfl ?_
  refine VW.aload_n (pc' := 1) d_F_refer_0 rfl rfl ?_
  refine VW.gP (ci := 10) (T := T10) (N := 11) (k := 0) (k' := 0) (pc' := 4) d_F_refer_1 rfl lk_F_12 in10 rfl rfl rfl rfl (by first | exact hC.k 0 rfl | exact hC.k 9 rfl | exact hC.k 2 rfl | exact hC.k 4 rfl | exact hC.st.1 | exact hC.sc.1) (by first | exact hC.p 1 rfl | exact hC.p 0 rfl | exact hC.p 10 rfl | exact hC.p 16 rfl | rfl) ?_
  refine VW.iload_n (pc' := 5) d_F_refer_4 rfl rfl ?_
  refine VW.iload_n (pc' := 6) d_F_refer_5 rfl rfl ?_
  refine VW.cV (ci := 7) (T := T7) (N := 8) (pc' := 9) d_F_refer_6 rfl mv_Schema_hasColumn lk_F_93 rfl (by first | exact hC.k 0 rfl | exact hC.k 9 rfl | exact hC.k 2 rfl | exact hC.k 4 rfl | exact hC.st.1 | exact hC.sc.1) rfl rfl rfl (by decide) (by decide) (F_hasCol1 hC h6 hp.1.1) rfl rfl ?_
  refine VW.if_eq (tgt := 31) (pc' := 12) d_F_refer_9 rfl rfl (fun c9 => ?_) (fun c9 => ?_)
  case refine_1 => exact absurd c9 (by decide)
  refine VW.iload_n (pc' := 13) d_F_refer_12 rfl rfl ?_
  refine VW.if_eq (tgt := 31) (pc' := 16) d_F_refer_13 rfl rfl (fun c13 => ?_) (fun c13 => ?_)
  case refine_1 => exact absurd c13 (fun w => hp.1.2 w)
  refine VW.aload_n (pc' := 17) d_F_refer_16 rfl rfl ?_
  refine VW.gP (ci := 10) (T := T10) (N := 11) (k := 0) (k' := 0) (pc' := 20) d_F_refer_17 rfl lk_F_12 in10 rfl rfl rfl rfl (by first | exact hC.k 0 rfl | exact hC.k 9 rfl | exact hC.k 2 rfl | exact hC.k 4 rfl | exact hC.st.1 | exact hC.sc.1) (by first | exact hC.p 1 rfl | exact hC.p 0 rfl | exact hC.p 10 rfl | exact hC.p 16 rfl | rfl) ?_
  refine VW.iload_n (pc' := 21) d_F_refer_20 rfl rfl ?_
  refine VW.cV (ci := 7) (T := T7) (N := 8) (pc' := 24) d_F_refer_21 rfl mv_Schema_hasTable lk_F_123 rfl (by first | exact hC.k 0 rfl | exact hC.k 9 rfl | exact hC.k 2 rfl | exact hC.k 4 rfl | exact hC.st.1 | exact hC.sc.1) rfl rfl rfl (by decide) (by decide) (F_hasTab1 hC hp.2) rfl rfl ?_
  refine VW.if_eq (tgt := 31) (pc' := 27) d_F_refer_24 rfl rfl (fun c24 => ?_) (fun c24 => ?_)
  case refine_1 => exact absurd c24 (by decide)
  refine VW.iconst (pc' := 28) d_F_refer_27 rfl (by decide) ?_
  refine VW.goto (pc' := 32) d_F_refer_28 rfl ?_
  refine VW.callSX (pc' := 35) d_F_refer_32 rfl (sp_F_demandPlace1 (by decide)) rfl ms_F_demandPlace.1 ms_F_demandPlace.2.1 rfl ms_F_demandPlace.2.2 lk_F_97 rfl rfl rfl (by decide) (by decide) (fun _ _ _ _ _ hz => by cases hz.1) (fun r _ _ _ _ hz => ?_)
  obtain ⟨z1, z2, z3, z4, z5⟩ := hz
  cases z1
  replace z2 := z2.symm; replace z3 := z3.symm; replace z4 := z4.symm; replace z5 := z5.symm
  subst z2; subst z3; subst z4; subst z5
  refine VW.iload (pc' := 37) d_F_refer_35 rfl rfl ?_
  refine VW.if_lt (tgt := 50) (pc' := 40) d_F_refer_37 rfl rfl (fun c37 => ?_) (fun c37 => ?_)
  · refine VW.iconst (pc' := 51) d_F_refer_50 rfl (by decide) ?_
    refine VW.callSX (pc' := 54) d_F_refer_51 rfl (sp_F_demandRange0) rfl ms_F_demandRange.1 ms_F_demandRange.2.1 rfl ms_F_demandRange.2.2 lk_F_70 rfl rfl rfl (by decide) (by decide) (fun _ _ _ _ _ hz => ?_) (fun _ _ _ _ _ hz => by cases hz.1)
    obtain ⟨z1, z2, z3, z4, z5⟩ := hz
    cases z1
    replace z2 := z2.symm; replace z3 := z3.symm; replace z4 := z4.symm; replace z5 := z5.symm
    subst z2; subst z3; subst z4; subst z5
    exact Or.inl ⟨rfl, ex_rf⟩
    -- end
  · refine VW.iload (pc' := 42) d_F_refer_40 rfl rfl ?_
    refine VW.iconst (pc' := 43) d_F_refer_42 rfl (by decide) ?_
    refine VW.icmp_gt (tgt := 50) (pc' := 46) d_F_refer_43 rfl rfl (fun c43 => ?_) (fun c43 => ?_)
    · refine VW.iconst (pc' := 51) d_F_refer_50 rfl (by decide) ?_
      refine VW.callSX (pc' := 54) d_F_refer_51 rfl (sp_F_demandRange0) rfl ms_F_demandRange.1 ms_F_demandRange.2.1 rfl ms_F_demandRange.2.2 lk_F_70 rfl rfl rfl (by decide) (by decide) (fun _ _ _ _ _ hz => ?_) (fun _ _ _ _ _ hz => by cases hz.1)
      obtain ⟨z1, z2, z3, z4, z5⟩ := hz
      cases z1
      replace z2 := z2.symm; replace z3 := z3.symm; replace z4 := z4.symm; replace z5 := z5.symm
      subst z2; subst z3; subst z4; subst z5
      exact Or.inl ⟨rfl, ex_rf⟩
      -- end
    · refine VW.nrm ?_
      exact absurd ⟨by omega, by omega⟩ h
theorem refer_no3 (hC : ClW K P) (hL : EnL K P I n lq lv mv) (h6 : I 1032 0 ≤ 6) (c4 : c < 4) (hp : ((((0 ≤ t ∧ t < I 1032 0) ∧ 0 ≤ c ∧ c < I 1034 t) ∧ c ≠ 0) ∧ 0 ≤ o ∧ o < I 1032 0)) (hr : 0 ≤ r ∧ r ≤ 2) (h : ¬ (I 1037 (t * 4 + c) = -1 ∧ rwCnt I 1161 t 8 = 0 ∧ ¬ 0 < opN I n)) : Sp m_F_refer true ({ frames := 12, cells := 1, slots := 6, locals := 400 } : Room) (ex K P J I (.inr eISE)) K P J I [vR (some 1000), vI t, vI c, vI o, vI r] := by
  have spU := sp_Engine_isBusy (J := J) hC hL
  have spN := sp_Rows_count (J := J) (I := I) (t := t) hC.st ⟨hp.1.1.1.1, by omega⟩
  have spG := sp_Schema_target (J := J) (I := I) (a := t) (b := c) hC.sc ⟨hp.1.1.1.1, by omega⟩ ⟨hp.1.1.2.1, c4⟩
  refine Sp.ofV (by decide) (Or.inl rfl) rfl ?_
  refine VW.aload_n (pc' := 1) d_F_refer_0 rfl rfl ?_
  refine VW.gP (ci := 10) (T := T10) (N := 11) (k := 0) (k' := 0) (pc' := 4) d_F_refer_1 rfl lk_F_12 in10 rfl rfl rfl rfl (by first | exact hC.k 0 rfl | exact hC.k 9 rfl | exact hC.k 2 rfl | exact hC.k 4 rfl | exact hC.st.1 | exact hC.sc.1) (by first | exact hC.p 1 rfl | exact hC.p 0 rfl | exact hC.p 10 rfl | exact hC.p 16 rfl | rfl) ?_
  refine VW.iload_n (pc' := 5) d_F_refer_4 rfl rfl ?_
  refine VW.iload_n (pc' := 6) d_F_refer_5 rfl rfl ?_
  refine VW.cV (ci := 7) (T := T7) (N := 8) (pc' := 9) d_F_refer_6 rfl mv_Schema_hasColumn lk_F_93 rfl (by first | exact hC.k 0 rfl | exact hC.k 9 rfl | exact hC.k 2 rfl | exact hC.k 4 rfl | exact hC.st.1 | exact hC.sc.1) rfl rfl rfl (by decide) (by decide) (F_hasCol1 hC h6 hp.1.1) rfl rfl ?_
  refine VW.if_eq (tgt := 31) (pc' := 12) d_F_refer_9 rfl rfl (fun c9 => ?_) (fun c9 => ?_)
  case refine_1 => exact absurd c9 (by decide)
  refine VW.iload_n (pc' := 13) d_F_refer_12 rfl rfl ?_
  refine VW.if_eq (tgt := 31) (pc' := 16) d_F_refer_13 rfl rfl (fun c13 => ?_) (fun c13 => ?_)
  case refine_1 => exact absurd c13 (fun w => hp.1.2 w)
  refine VW.aload_n (pc' := 17) d_F_refer_16 rfl rfl ?_
  refine VW.gP (ci := 10) (T := T10) (N := 11) (k := 0) (k' := 0) (pc' := 20) d_F_refer_17 rfl lk_F_12 in10 rfl rfl rfl rfl (by first | exact hC.k 0 rfl | exact hC.k 9 rfl | exact hC.k 2 rfl | exact hC.k 4 rfl | exact hC.st.1 | exact hC.sc.1) (by first | exact hC.p 1 rfl | exact hC.p 0 rfl | exact hC.p 10 rfl | exact hC.p 16 rfl | rfl) ?_
  refine VW.iload_n (pc' := 21) d_F_refer_20 rfl rfl ?_
  refine VW.cV (ci := 7) (T := T7) (N := 8) (pc' := 24) d_F_refer_21 rfl mv_Schema_hasTable lk_F_123 rfl (by first | exact hC.k 0 rfl | exact hC.k 9 rfl | exact hC.k 2 rfl | exact hC.k 4 rfl | exact hC.st.1 | exact hC.sc.1) rfl rfl rfl (by decide) (by decide) (F_hasTab1 hC hp.2) rfl rfl ?_
  refine VW.if_eq (tgt := 31) (pc' := 27) d_F_refer_24 rfl rfl (fun c24 => ?_) (fun c24 => ?_)
  case refine_1 => exact absurd c24 (by decide)
  refine VW.iconst (pc' := 28) d_F_refer_27 rfl (by decide) ?_
  refine VW.goto (pc' := 32) d_F_refer_28 rfl ?_
  refine VW.callSX (pc' := 35) d_F_refer_32 rfl (sp_F_demandPlace1 (by decide)) rfl ms_F_demandPlace.1 ms_F_demandPlace.2.1 rfl ms_F_demandPlace.2.2 lk_F_97 rfl rfl rfl (by decide) (by decide) (fun _ _ _ _ _ hz => by cases hz.1) (fun r _ _ _ _ hz => ?_)
  obtain ⟨z1, z2, z3, z4, z5⟩ := hz
  cases z1
  replace z2 := z2.symm; replace z3 := z3.symm; replace z4 := z4.symm; replace z5 := z5.symm
  subst z2; subst z3; subst z4; subst z5
  refine VW.iload (pc' := 37) d_F_refer_35 rfl rfl ?_
  refine VW.if_lt (tgt := 50) (pc' := 40) d_F_refer_37 rfl rfl (fun c37 => ?_) (fun c37 => ?_)
  case refine_1 => exact absurd c37 (by omega)
  refine VW.iload (pc' := 42) d_F_refer_40 rfl rfl ?_
  refine VW.iconst (pc' := 43) d_F_refer_42 rfl (by decide) ?_
  refine VW.icmp_gt (tgt := 50) (pc' := 46) d_F_refer_43 rfl rfl (fun c43 => ?_) (fun c43 => ?_)
  case refine_1 => exact absurd c43 (by omega)
  refine VW.iconst (pc' := 47) d_F_refer_46 rfl (by decide) ?_
  refine VW.goto (pc' := 51) d_F_refer_47 rfl ?_
  refine VW.callSX (pc' := 54) d_F_refer_51 rfl (sp_F_demandRange1 (by decide)) rfl ms_F_demandRange.1 ms_F_demandRange.2.1 rfl ms_F_demandRange.2.2 lk_F_70 rfl rfl rfl (by decide) (by decide) (fun _ _ _ _ _ hz => by cases hz.1) (fun r _ _ _ _ hz => ?_)
  obtain ⟨z1, z2, z3, z4, z5⟩ := hz
  cases z1
  replace z2 := z2.symm; replace z3 := z3.symm; replace z4 := z4.symm; replace z5 := z5.symm
  subst z2; subst z3; subst z4; subst z5
  refine VW.aload_n (pc' := 55) d_F_refer_54 rfl rfl ?_
  refine VW.gP (ci := 10) (T := T10) (N := 11) (k := 0) (k' := 0) (pc' := 58) d_F_refer_55 rfl lk_F_12 in10 rfl rfl rfl rfl (by first | exact hC.k 0 rfl | exact hC.k 9 rfl | exact hC.k 2 rfl | exact hC.k 4 rfl | exact hC.st.1 | exact hC.sc.1) (by first | exact hC.p 1 rfl | exact hC.p 0 rfl | exact hC.p 10 rfl | exact hC.p 16 rfl | rfl) ?_
  refine VW.iload_n (pc' := 59) d_F_refer_58 rfl rfl ?_
  refine VW.iload_n (pc' := 60) d_F_refer_59 rfl rfl ?_
  refine VW.cV (ci := 7) (T := T7) (N := 8) (pc' := 63) d_F_refer_60 rfl mv_Schema_target lk_F_126 rfl (by first | exact hC.k 0 rfl | exact hC.k 9 rfl | exact hC.k 2 rfl | exact hC.k 4 rfl | exact hC.st.1 | exact hC.sc.1) rfl rfl rfl (by decide) (by decide) (spG) rfl rfl ?_
  refine VW.iconst (pc' := 64) d_F_refer_63 rfl (by decide) ?_
  refine VW.icmp_ne (tgt := 95) (pc' := 67) d_F_refer_64 rfl rfl (fun c64 => ?_) (fun c64 => ?_)
  · refine VW.iconst (pc' := 96) d_F_refer_95 rfl (by decide) ?_
    refine VW.callSX (pc' := 99) d_F_refer_96 rfl (sp_F_demandState0) rfl ms_F_demandState.1 ms_F_demandState.2.1 rfl ms_F_demandState.2.2 lk_F_82 rfl rfl rfl (by decide) (by decide) (fun _ _ _ _ _ hz => ?_) (fun _ _ _ _ _ hz => by cases hz.1)
    obtain ⟨z1, z2, z3, z4, z5⟩ := hz
    cases z1
    replace z2 := z2.symm; replace z3 := z3.symm; replace z4 := z4.symm; replace z5 := z5.symm
    subst z2; subst z3; subst z4; subst z5
    exact Or.inl ⟨rfl, ex_rf⟩
    -- end
  · refine VW.aload_n (pc' := 68) d_F_refer_67 rfl rfl ?_
    refine VW.gP (ci := 10) (T := T10) (N := 11) (k := 1) (k' := 1) (pc' := 71) d_F_refer_68 rfl lk_F_21 in10 rfl rfl rfl rfl (by first | exact hC.k 0 rfl | exact hC.k 9 rfl | exact hC.k 2 rfl | exact hC.k 4 rfl | exact hC.st.1 | exact hC.sc.1) (by first | exact hC.p 1 rfl | exact hC.p 0 rfl | exact hC.p 10 rfl | exact hC.p 16 rfl | rfl) ?_
    refine VW.gP (ci := 0) (T := T0) (N := 8) (k := 1) (k' := 1) (pc' := 74) d_F_refer_71 rfl lk_F_110 in0 rfl rfl rfl rfl (by first | exact hC.k 0 rfl | exact hC.k 9 rfl | exact hC.k 2 rfl | exact hC.k 4 rfl | exact hC.st.1 | exact hC.sc.1) (by first | exact hC.p 1 rfl | exact hC.p 0 rfl | exact hC.p 10 rfl | exact hC.p 16 rfl | rfl) ?_
    refine VW.iload_n (pc' := 75) d_F_refer_74 rfl rfl ?_
    refine VW.cV (ci := 6) (T := T6) (N := 1) (pc' := 78) d_F_refer_75 rfl mv_Rows_count lk_F_114 rfl (by first | exact hC.k 0 rfl | exact hC.k 9 rfl | exact hC.k 2 rfl | exact hC.k 4 rfl | exact hC.st.1 | exact hC.sc.1) rfl rfl rfl (by decide) (by decide) (spN) rfl rfl ?_
    refine VW.if_ne (tgt := 95) (pc' := 81) d_F_refer_78 rfl rfl (fun c78 => ?_) (fun c78 => ?_)
    · try have e78 := bIn c78
      refine VW.iconst (pc' := 96) d_F_refer_95 rfl (by decide) ?_
      refine VW.callSX (pc' := 99) d_F_refer_96 rfl (sp_F_demandState0) rfl ms_F_demandState.1 ms_F_demandState.2.1 rfl ms_F_demandState.2.2 lk_F_82 rfl rfl rfl (by decide) (by decide) (fun _ _ _ _ _ hz => ?_) (fun _ _ _ _ _ hz => by cases hz.1)
      obtain ⟨z1, z2, z3, z4, z5⟩ := hz
      cases z1
      replace z2 := z2.symm; replace z3 := z3.symm; replace z4 := z4.symm; replace z5 := z5.symm
      subst z2; subst z3; subst z4; subst z5
      exact Or.inl ⟨rfl, ex_rf⟩
      -- end
    · try have e78 := bIe c78
      refine VW.aload_n (pc' := 82) d_F_refer_81 rfl rfl ?_
      refine VW.gP (ci := 10) (T := T10) (N := 11) (k := 1) (k' := 1) (pc' := 85) d_F_refer_82 rfl lk_F_21 in10 rfl rfl rfl rfl (by first | exact hC.k 0 rfl | exact hC.k 9 rfl | exact hC.k 2 rfl | exact hC.k 4 rfl | exact hC.st.1 | exact hC.sc.1) (by first | exact hC.p 1 rfl | exact hC.p 0 rfl | exact hC.p 10 rfl | exact hC.p 16 rfl | rfl) ?_
      refine VW.cV (ci := 0) (T := T0) (N := 8) (pc' := 88) d_F_refer_85 rfl mv_Engine_isBusy lk_F_78 rfl (by first | exact hC.k 0 rfl | exact hC.k 9 rfl | exact hC.k 2 rfl | exact hC.k 4 rfl | exact hC.st.1 | exact hC.sc.1) rfl rfl rfl (by decide) (by decide) (spU) rfl rfl ?_
      refine VW.if_ne (tgt := 95) (pc' := 91) d_F_refer_88 rfl rfl (fun c88 => ?_) (fun c88 => ?_)
      · try have e88 := bIn c88
        refine VW.iconst (pc' := 96) d_F_refer_95 rfl (by decide) ?_
        refine VW.callSX (pc' := 99) d_F_refer_96 rfl (sp_F_demandState0) rfl ms_F_demandState.1 ms_F_demandState.2.1 rfl ms_F_demandState.2.2 lk_F_82 rfl rfl rfl (by decide) (by decide) (fun _ _ _ _ _ hz => ?_) (fun _ _ _ _ _ hz => by cases hz.1)
        obtain ⟨z1, z2, z3, z4, z5⟩ := hz
        cases z1
        replace z2 := z2.symm; replace z3 := z3.symm; replace z4 := z4.symm; replace z5 := z5.symm
        subst z2; subst z3; subst z4; subst z5
        exact Or.inl ⟨rfl, ex_rf⟩
        -- end
      · try have e88 := bIe c88
        refine VW.nrm ?_
        exact absurd ⟨by omega, by omega, e88⟩ h
theorem refer_run (hC : ClW K P) (hL : EnL K P I n lq lv mv) (hQ : QnL K P I nq lqq) (h6 : I 1032 0 ≤ 6) (c4 : c < 4) (hp : ((((0 ≤ t ∧ t < I 1032 0) ∧ 0 ≤ c ∧ c < I 1034 t) ∧ c ≠ 0) ∧ 0 ≤ o ∧ o < I 1032 0)) (hr : 0 ≤ r ∧ r ≤ 2) (ht : I 1037 (t * 4 + c) = -1) (h0 : rwCnt I 1161 t 8 = 0) (hb : bI (0 < opN I n) = 0) : Sp m_F_refer true ({ frames := 12, cells := 0, slots := 0, locals := 400 } : Room) (ex K P J (up2 (up2 (dpI I nq) 1037 (t * 4 + c) o) 1038 (t * 4 + c) r) (.inl none)) K P J I [vR (some 1000), vI t, vI c, vI o, vI r] := by
  have spU := sp_Engine_isBusy (J := J) hC hL
  rw [hb] at spU
  have spN := sp_Rows_count (J := J) (I := I) (t := t) hC.st ⟨hp.1.1.1.1, by omega⟩
  rw [h0] at spN
  have spG := sp_Schema_target (J := J) (I := I) (a := t) (b := c) hC.sc ⟨hp.1.1.1.1, by omega⟩ ⟨hp.1.1.2.1, c4⟩
  rw [ht] at spG
  have spD := sp_F_dropPlans (J := J) hC hQ
  have spA := sp_Schema_addReference (J := J) (I := dpI I nq) (a := t) (b := c) (y := o) (z := r) hC.sc ⟨hp.1.1.1.1, by omega⟩ ⟨hp.1.1.2.1, c4⟩
  refine Sp.ofV (by decide) (Or.inl rfl) rfl ?_
  refine VW.aload_n (pc' := 1) d_F_refer_0 rfl rfl ?_
  refine VW.gP (ci := 10) (T := T10) (N := 11) (k := 0) (k' := 0) (pc' := 4) d_F_refer_1 rfl lk_F_12 in10 rfl rfl rfl rfl (by first | exact hC.k 0 rfl | exact hC.k 9 rfl | exact hC.k 2 rfl | exact hC.k 4 rfl | exact hC.st.1 | exact hC.sc.1) (by first | exact hC.p 1 rfl | exact hC.p 0 rfl | exact hC.p 10 rfl | exact hC.p 16 rfl | rfl) ?_
  refine VW.iload_n (pc' := 5) d_F_refer_4 rfl rfl ?_
  refine VW.iload_n (pc' := 6) d_F_refer_5 rfl rfl ?_
  refine VW.cV (ci := 7) (T := T7) (N := 8) (pc' := 9) d_F_refer_6 rfl mv_Schema_hasColumn lk_F_93 rfl (by first | exact hC.k 0 rfl | exact hC.k 9 rfl | exact hC.k 2 rfl | exact hC.k 4 rfl | exact hC.st.1 | exact hC.sc.1) rfl rfl rfl (by decide) (by decide) (F_hasCol1 hC h6 hp.1.1) rfl rfl ?_
  refine VW.if_eq (tgt := 31) (pc' := 12) d_F_refer_9 rfl rfl (fun c9 => ?_) (fun c9 => ?_)
  case refine_1 => exact absurd c9 (by decide)
  refine VW.iload_n (pc' := 13) d_F_refer_12 rfl rfl ?_
  refine VW.if_eq (tgt := 31) (pc' := 16) d_F_refer_13 rfl rfl (fun c13 => ?_) (fun c13 => ?_)
  case refine_1 => exact absurd c13 (fun w => hp.1.2 w)
  refine VW.aload_n (pc' := 17) d_F_refer_16 rfl rfl ?_
  refine VW.gP (ci := 10) (T := T10) (N := 11) (k := 0) (k' := 0) (pc' := 20) d_F_refer_17 rfl lk_F_12 in10 rfl rfl rfl rfl (by first | exact hC.k 0 rfl | exact hC.k 9 rfl | exact hC.k 2 rfl | exact hC.k 4 rfl | exact hC.st.1 | exact hC.sc.1) (by first | exact hC.p 1 rfl | exact hC.p 0 rfl | exact hC.p 10 rfl | exact hC.p 16 rfl | rfl) ?_
  refine VW.iload_n (pc' := 21) d_F_refer_20 rfl rfl ?_
  refine VW.cV (ci := 7) (T := T7) (N := 8) (pc' := 24) d_F_refer_21 rfl mv_Schema_hasTable lk_F_123 rfl (by first | exact hC.k 0 rfl | exact hC.k 9 rfl | exact hC.k 2 rfl | exact hC.k 4 rfl | exact hC.st.1 | exact hC.sc.1) rfl rfl rfl (by decide) (by decide) (F_hasTab1 hC hp.2) rfl rfl ?_
  refine VW.if_eq (tgt := 31) (pc' := 27) d_F_refer_24 rfl rfl (fun c24 => ?_) (fun c24 => ?_)
  case refine_1 => exact absurd c24 (by decide)
  refine VW.iconst (pc' := 28) d_F_refer_27 rfl (by decide) ?_
  refine VW.goto (pc' := 32) d_F_refer_28 rfl ?_
  refine VW.callSX (pc' := 35) d_F_refer_32 rfl (sp_F_demandPlace1 (by decide)) rfl ms_F_demandPlace.1 ms_F_demandPlace.2.1 rfl ms_F_demandPlace.2.2 lk_F_97 rfl rfl rfl (by decide) (by decide) (fun _ _ _ _ _ hz => by cases hz.1) (fun r _ _ _ _ hz => ?_)
  obtain ⟨z1, z2, z3, z4, z5⟩ := hz
  cases z1
  replace z2 := z2.symm; replace z3 := z3.symm; replace z4 := z4.symm; replace z5 := z5.symm
  subst z2; subst z3; subst z4; subst z5
  refine VW.iload (pc' := 37) d_F_refer_35 rfl rfl ?_
  refine VW.if_lt (tgt := 50) (pc' := 40) d_F_refer_37 rfl rfl (fun c37 => ?_) (fun c37 => ?_)
  case refine_1 => exact absurd c37 (by omega)
  refine VW.iload (pc' := 42) d_F_refer_40 rfl rfl ?_
  refine VW.iconst (pc' := 43) d_F_refer_42 rfl (by decide) ?_
  refine VW.icmp_gt (tgt := 50) (pc' := 46) d_F_refer_43 rfl rfl (fun c43 => ?_) (fun c43 => ?_)
  case refine_1 => exact absurd c43 (by omega)
  refine VW.iconst (pc' := 47) d_F_refer_46 rfl (by decide) ?_
  refine VW.goto (pc' := 51) d_F_refer_47 rfl ?_
  refine VW.callSX (pc' := 54) d_F_refer_51 rfl (sp_F_demandRange1 (by decide)) rfl ms_F_demandRange.1 ms_F_demandRange.2.1 rfl ms_F_demandRange.2.2 lk_F_70 rfl rfl rfl (by decide) (by decide) (fun _ _ _ _ _ hz => by cases hz.1) (fun r _ _ _ _ hz => ?_)
  obtain ⟨z1, z2, z3, z4, z5⟩ := hz
  cases z1
  replace z2 := z2.symm; replace z3 := z3.symm; replace z4 := z4.symm; replace z5 := z5.symm
  subst z2; subst z3; subst z4; subst z5
  refine VW.aload_n (pc' := 55) d_F_refer_54 rfl rfl ?_
  refine VW.gP (ci := 10) (T := T10) (N := 11) (k := 0) (k' := 0) (pc' := 58) d_F_refer_55 rfl lk_F_12 in10 rfl rfl rfl rfl (by first | exact hC.k 0 rfl | exact hC.k 9 rfl | exact hC.k 2 rfl | exact hC.k 4 rfl | exact hC.st.1 | exact hC.sc.1) (by first | exact hC.p 1 rfl | exact hC.p 0 rfl | exact hC.p 10 rfl | exact hC.p 16 rfl | rfl) ?_
  refine VW.iload_n (pc' := 59) d_F_refer_58 rfl rfl ?_
  refine VW.iload_n (pc' := 60) d_F_refer_59 rfl rfl ?_
  refine VW.cV (ci := 7) (T := T7) (N := 8) (pc' := 63) d_F_refer_60 rfl mv_Schema_target lk_F_126 rfl (by first | exact hC.k 0 rfl | exact hC.k 9 rfl | exact hC.k 2 rfl | exact hC.k 4 rfl | exact hC.st.1 | exact hC.sc.1) rfl rfl rfl (by decide) (by decide) (spG) rfl rfl ?_
  refine VW.iconst (pc' := 64) d_F_refer_63 rfl (by decide) ?_
  refine VW.icmp_ne (tgt := 95) (pc' := 67) d_F_refer_64 rfl rfl (fun c64 => ?_) (fun c64 => ?_)
  case refine_1 => exact absurd c64 (fun w => w rfl)
  refine VW.aload_n (pc' := 68) d_F_refer_67 rfl rfl ?_
  refine VW.gP (ci := 10) (T := T10) (N := 11) (k := 1) (k' := 1) (pc' := 71) d_F_refer_68 rfl lk_F_21 in10 rfl rfl rfl rfl (by first | exact hC.k 0 rfl | exact hC.k 9 rfl | exact hC.k 2 rfl | exact hC.k 4 rfl | exact hC.st.1 | exact hC.sc.1) (by first | exact hC.p 1 rfl | exact hC.p 0 rfl | exact hC.p 10 rfl | exact hC.p 16 rfl | rfl) ?_
  refine VW.gP (ci := 0) (T := T0) (N := 8) (k := 1) (k' := 1) (pc' := 74) d_F_refer_71 rfl lk_F_110 in0 rfl rfl rfl rfl (by first | exact hC.k 0 rfl | exact hC.k 9 rfl | exact hC.k 2 rfl | exact hC.k 4 rfl | exact hC.st.1 | exact hC.sc.1) (by first | exact hC.p 1 rfl | exact hC.p 0 rfl | exact hC.p 10 rfl | exact hC.p 16 rfl | rfl) ?_
  refine VW.iload_n (pc' := 75) d_F_refer_74 rfl rfl ?_
  refine VW.cV (ci := 6) (T := T6) (N := 1) (pc' := 78) d_F_refer_75 rfl mv_Rows_count lk_F_114 rfl (by first | exact hC.k 0 rfl | exact hC.k 9 rfl | exact hC.k 2 rfl | exact hC.k 4 rfl | exact hC.st.1 | exact hC.sc.1) rfl rfl rfl (by decide) (by decide) (spN) rfl rfl ?_
  refine VW.if_ne (tgt := 95) (pc' := 81) d_F_refer_78 rfl rfl (fun c78 => ?_) (fun c78 => ?_)
  case refine_1 => exact absurd c78 (by decide)
  refine VW.aload_n (pc' := 82) d_F_refer_81 rfl rfl ?_
  refine VW.gP (ci := 10) (T := T10) (N := 11) (k := 1) (k' := 1) (pc' := 85) d_F_refer_82 rfl lk_F_21 in10 rfl rfl rfl rfl (by first | exact hC.k 0 rfl | exact hC.k 9 rfl | exact hC.k 2 rfl | exact hC.k 4 rfl | exact hC.st.1 | exact hC.sc.1) (by first | exact hC.p 1 rfl | exact hC.p 0 rfl | exact hC.p 10 rfl | exact hC.p 16 rfl | rfl) ?_
  refine VW.cV (ci := 0) (T := T0) (N := 8) (pc' := 88) d_F_refer_85 rfl mv_Engine_isBusy lk_F_78 rfl (by first | exact hC.k 0 rfl | exact hC.k 9 rfl | exact hC.k 2 rfl | exact hC.k 4 rfl | exact hC.st.1 | exact hC.sc.1) rfl rfl rfl (by decide) (by decide) (spU) rfl rfl ?_
  refine VW.if_ne (tgt := 95) (pc' := 91) d_F_refer_88 rfl rfl (fun c88 => ?_) (fun c88 => ?_)
  case refine_1 => exact absurd c88 (by decide)
  refine VW.iconst (pc' := 92) d_F_refer_91 rfl (by decide) ?_
  refine VW.goto (pc' := 96) d_F_refer_92 rfl ?_
  refine VW.callSX (pc' := 99) d_F_refer_96 rfl (sp_F_demandState1 (by decide)) rfl ms_F_demandState.1 ms_F_demandState.2.1 rfl ms_F_demandState.2.2 lk_F_82 rfl rfl rfl (by decide) (by decide) (fun _ _ _ _ _ hz => by cases hz.1) (fun r _ _ _ _ hz => ?_)
  obtain ⟨z1, z2, z3, z4, z5⟩ := hz
  cases z1
  replace z2 := z2.symm; replace z3 := z3.symm; replace z4 := z4.symm; replace z5 := z5.symm
  subst z2; subst z3; subst z4; subst z5
  refine VW.aload_n (pc' := 100) d_F_refer_99 rfl rfl ?_
  refine VW.cV (ci := 10) (T := T10) (N := 11) (pc' := 103) d_F_refer_100 rfl mv_F_dropPlans lk_F_85 rfl (by first | exact hC.k 0 rfl | exact hC.k 9 rfl | exact hC.k 2 rfl | exact hC.k 4 rfl | exact hC.st.1 | exact hC.sc.1) rfl rfl rfl (by decide) (by decide) (spD) rfl rfl ?_
  refine VW.pop (pc' := 104) d_F_refer_103 rfl rfl ?_
  refine VW.aload_n (pc' := 105) d_F_refer_104 rfl rfl ?_
  refine VW.gP (ci := 10) (T := T10) (N := 11) (k := 0) (k' := 0) (pc' := 108) d_F_refer_105 rfl lk_F_12 in10 rfl rfl rfl rfl (by first | exact hC.k 0 rfl | exact hC.k 9 rfl | exact hC.k 2 rfl | exact hC.k 4 rfl | exact hC.st.1 | exact hC.sc.1) (by first | exact hC.p 1 rfl | exact hC.p 0 rfl | exact hC.p 10 rfl | exact hC.p 16 rfl | rfl) ?_
  refine VW.iload_n (pc' := 109) d_F_refer_108 rfl rfl ?_
  refine VW.iload_n (pc' := 110) d_F_refer_109 rfl rfl ?_
  refine VW.iload_n (pc' := 111) d_F_refer_110 rfl rfl ?_
  refine VW.iload (pc' := 113) d_F_refer_111 rfl rfl ?_
  refine VW.cV (ci := 7) (T := T7) (N := 8) (pc' := 116) d_F_refer_113 rfl mv_Schema_addReference lk_F_130 rfl (by first | exact hC.k 0 rfl | exact hC.k 9 rfl | exact hC.k 2 rfl | exact hC.k 4 rfl | exact hC.st.1 | exact hC.sc.1) rfl rfl rfl (by decide) (by decide) (spA) rfl rfl ?_
  exact VW.vret d_F_refer_116 rfl (by decide) (by decide) ex_rf
theorem veil_no1 (hC : ClW K P) (h6 : I 1032 0 ≤ 6) (h : ¬ ((1 ≤ r ∧ r < 4) ∧ (0 ≤ t ∧ t < I 1032 0) ∧ 0 ≤ c ∧ c < I 1034 t)) : Sp m_F_veil true ({ frames := 12, cells := 1, slots := 6, locals := 400 } : Room) (ex K P J I (.inr eIOO)) K P J I [vR (some 1000), vI r, vI t, vI c, vI w, vI v] := by
  have spB := sp_Schema_hasColumn (J := J) (I := I) (a := t) (b := c) hC.sc h6
  refine Sp.ofV (by decide) (Or.inl rfl) rfl ?_
  refine VW.iload_n (pc' := 1) d_F_veil_0 rfl rfl ?_
  refine VW.iconst (pc' := 2) d_F_veil_1 rfl (by decide) ?_
  refine VW.icmp_lt (tgt := 26) (pc' := 5) d_F_veil_2 rfl rfl (fun c2 => ?_) (fun c2 => ?_)
  · refine VW.iconst (pc' := 27) d_F_veil_26 rfl (by decide) ?_
    refine VW.callSX (pc' := 30) d_F_veil_27 rfl (sp_F_demandPlace0) rfl ms_F_demandPlace.1 ms_F_demandPlace.2.1 rfl ms_F_demandPlace.2.2 lk_F_97 rfl rfl rfl (by decide) (by decide) (fun _ _ _ _ _ hz => ?_) (fun _ _ _ _ _ hz => by cases hz.1)
    obtain ⟨z1, z2, z3, z4, z5⟩ := hz
    cases z1
    replace z2 := z2.symm; replace z3 := z3.symm; replace z4 := z4.symm; replace z5 := z5.symm
    subst z2; subst z3; subst z4; subst z5
    exact Or.inl ⟨rfl, ex_rf⟩
    -- end
  · refine VW.iload_n (pc' := 6) d_F_veil_5 rfl rfl ?_
    refine VW.iconst (pc' := 7) d_F_veil_6 rfl (by decide) ?_
    refine VW.icmp_ge (tgt := 26) (pc' := 10) d_F_veil_7 rfl rfl (fun c7 => ?_) (fun c7 => ?_)
    · refine VW.iconst (pc' := 27) d_F_veil_26 rfl (by decide) ?_
      refine VW.callSX (pc' := 30) d_F_veil_27 rfl (sp_F_demandPlace0) rfl ms_F_demandPlace.1 ms_F_demandPlace.2.1 rfl ms_F_demandPlace.2.2 lk_F_97 rfl rfl rfl (by decide) (by decide) (fun _ _ _ _ _ hz => ?_) (fun _ _ _ _ _ hz => by cases hz.1)
      obtain ⟨z1, z2, z3, z4, z5⟩ := hz
      cases z1
      replace z2 := z2.symm; replace z3 := z3.symm; replace z4 := z4.symm; replace z5 := z5.symm
      subst z2; subst z3; subst z4; subst z5
      exact Or.inl ⟨rfl, ex_rf⟩
      -- end
    · refine VW.aload_n (pc' := 11) d_F_veil_10 rfl rfl ?_
      refine VW.gP (ci := 10) (T := T10) (N := 11) (k := 0) (k' := 0) (pc' := 14) d_F_veil_11 rfl lk_F_12 in10 rfl rfl rfl rfl (by first | exact hC.k 0 rfl | exact hC.k 9 rfl | exact hC.k 2 rfl | exact hC.k 4 rfl | exact hC.st.1 | exact hC.sc.1) (by first | exact hC.p 1 rfl | exact hC.p 0 rfl | exact hC.p 10 rfl | exact hC.p 16 rfl | rfl) ?_
      refine VW.iload_n (pc' := 15) d_F_veil_14 rfl rfl ?_
      refine VW.iload_n (pc' := 16) d_F_veil_15 rfl rfl ?_
      refine VW.cV (ci := 7) (T := T7) (N := 8) (pc' := 19) d_F_veil_16 rfl mv_Schema_hasColumn lk_F_93 rfl (by first | exact hC.k 0 rfl | exact hC.k 9 rfl | exact hC.k 2 rfl | exact hC.k 4 rfl | exact hC.st.1 | exact hC.sc.1) rfl rfl rfl (by decide) (by decide) (spB) rfl rfl ?_
      refine VW.if_eq (tgt := 26) (pc' := 22) d_F_veil_19 rfl rfl (fun c19 => ?_) (fun c19 => ?_)
      · try have e19 := bIe c19
        refine VW.iconst (pc' := 27) d_F_veil_26 rfl (by decide) ?_
        refine VW.callSX (pc' := 30) d_F_veil_27 rfl (sp_F_demandPlace0) rfl ms_F_demandPlace.1 ms_F_demandPlace.2.1 rfl ms_F_demandPlace.2.2 lk_F_97 rfl rfl rfl (by decide) (by decide) (fun _ _ _ _ _ hz => ?_) (fun _ _ _ _ _ hz => by cases hz.1)
        obtain ⟨z1, z2, z3, z4, z5⟩ := hz
        cases z1
        replace z2 := z2.symm; replace z3 := z3.symm; replace z4 := z4.symm; replace z5 := z5.symm
        subst z2; subst z3; subst z4; subst z5
        exact Or.inl ⟨rfl, ex_rf⟩
        -- end
      · try have e19 := bIn c19
        refine VW.nrm ?_
        exact absurd ⟨⟨by omega, by omega⟩, e19⟩ h
theorem veil_no2 (hC : ClW K P) (h6 : I 1032 0 ≤ 6) (hp : ((1 ≤ r ∧ r < 4) ∧ (0 ≤ t ∧ t < I 1032 0) ∧ 0 ≤ c ∧ c < I 1034 t)) (h : ¬ ((0 ≤ w ∧ w ≤ 2) ∧ -1000 ≤ v ∧ v ≤ 1000)) : Sp m_F_veil true ({ frames := 12, cells := 1, slots := 6, locals := 400 } : Room) (ex K P J I (.inr eIAE)) K P J I [vR (some 1000), vI r, vI t, vI c, vI w, vI v] := by
  refine Sp.ofV (by decide) (Or.inl rfl) rfl ?_
  refine VW.iload_n (pc' := 1) d_F_veil_0 rfl rfl ?_
  refine VW.iconst (pc' := 2) d_F_veil_1 rfl (by decide) ?_
  refine VW.icmp_lt (tgt := 26) (pc' := 5) d_F_veil_2 rfl rfl (fun c2 => ?_) (fun c2 => ?_)
  case refine_1 => exact absurd c2 (by omega)
  refine VW.iload_n (pc' := 6) d_F_veil_5 rfl rfl ?_
  refine VW.iconst (pc' := 7) d_F_veil_6 rfl (by decide) ?_
  refine VW.icmp_ge (tgt := 26) (pc' := 10) d_F_veil_7 rfl rfl (fun c7 => ?_) (fun c7 => ?_)
  case refine_1 => exact absurd c7 (by omega)
  refine VW.aload_n (pc' := 11) d_F_veil_10 rfl rfl ?_
  refine VW.gP (ci := 10) (T := T10) (N := 11) (k := 0) (k' := 0) (pc' := 14) d_F_veil_11 rfl lk_F_12 in10 rfl rfl rfl rfl (by first | exact hC.k 0 rfl | exact hC.k 9 rfl | exact hC.k 2 rfl | exact hC.k 4 rfl | exact hC.st.1 | exact hC.sc.1) (by first | exact hC.p 1 rfl | exact hC.p 0 rfl | exact hC.p 10 rfl | exact hC.p 16 rfl | rfl) ?_
  refine VW.iload_n (pc' := 15) d_F_veil_14 rfl rfl ?_
  refine VW.iload_n (pc' := 16) d_F_veil_15 rfl rfl ?_
  refine VW.cV (ci := 7) (T := T7) (N := 8) (pc' := 19) d_F_veil_16 rfl mv_Schema_hasColumn lk_F_93 rfl (by first | exact hC.k 0 rfl | exact hC.k 9 rfl | exact hC.k 2 rfl | exact hC.k 4 rfl | exact hC.st.1 | exact hC.sc.1) rfl rfl rfl (by decide) (by decide) (F_hasCol1 hC h6 hp.2) rfl rfl ?_
  refine VW.if_eq (tgt := 26) (pc' := 22) d_F_veil_19 rfl rfl (fun c19 => ?_) (fun c19 => ?_)
  case refine_1 => exact absurd c19 (by decide)
  refine VW.iconst (pc' := 23) d_F_veil_22 rfl (by decide) ?_
  refine VW.goto (pc' := 27) d_F_veil_23 rfl ?_
  refine VW.callSX (pc' := 30) d_F_veil_27 rfl (sp_F_demandPlace1 (by decide)) rfl ms_F_demandPlace.1 ms_F_demandPlace.2.1 rfl ms_F_demandPlace.2.2 lk_F_97 rfl rfl rfl (by decide) (by decide) (fun _ _ _ _ _ hz => by cases hz.1) (fun r _ _ _ _ hz => ?_)
  obtain ⟨z1, z2, z3, z4, z5⟩ := hz
  cases z1
  replace z2 := z2.symm; replace z3 := z3.symm; replace z4 := z4.symm; replace z5 := z5.symm
  subst z2; subst z3; subst z4; subst z5
  refine VW.iload (pc' := 32) d_F_veil_30 rfl rfl ?_
  refine VW.cS (pc' := 35) d_F_veil_32 rfl ms_F_isComparison lk_F_100 rfl rfl rfl (by decide) (by decide) (sp_F_isComparison) rfl rfl ?_
  refine VW.if_eq (tgt := 50) (pc' := 38) d_F_veil_35 rfl rfl (fun c35 => ?_) (fun c35 => ?_)
  · try have e35 := bIe c35
    refine VW.iconst (pc' := 51) d_F_veil_50 rfl (by decide) ?_
    refine VW.callSX (pc' := 54) d_F_veil_51 rfl (sp_F_demandRange0) rfl ms_F_demandRange.1 ms_F_demandRange.2.1 rfl ms_F_demandRange.2.2 lk_F_70 rfl rfl rfl (by decide) (by decide) (fun _ _ _ _ _ hz => ?_) (fun _ _ _ _ _ hz => by cases hz.1)
    obtain ⟨z1, z2, z3, z4, z5⟩ := hz
    cases z1
    replace z2 := z2.symm; replace z3 := z3.symm; replace z4 := z4.symm; replace z5 := z5.symm
    subst z2; subst z3; subst z4; subst z5
    exact Or.inl ⟨rfl, ex_rf⟩
    -- end
  · try have e35 := bIn c35
    refine VW.iload (pc' := 40) d_F_veil_38 rfl rfl ?_
    refine VW.cS (pc' := 43) d_F_veil_40 rfl ms_F_isNumber lk_F_104 rfl rfl rfl (by decide) (by decide) (sp_F_isNumber) rfl rfl ?_
    refine VW.if_eq (tgt := 50) (pc' := 46) d_F_veil_43 rfl rfl (fun c43 => ?_) (fun c43 => ?_)
    · try have e43 := bIe c43
      refine VW.iconst (pc' := 51) d_F_veil_50 rfl (by decide) ?_
      refine VW.callSX (pc' := 54) d_F_veil_51 rfl (sp_F_demandRange0) rfl ms_F_demandRange.1 ms_F_demandRange.2.1 rfl ms_F_demandRange.2.2 lk_F_70 rfl rfl rfl (by decide) (by decide) (fun _ _ _ _ _ hz => ?_) (fun _ _ _ _ _ hz => by cases hz.1)
      obtain ⟨z1, z2, z3, z4, z5⟩ := hz
      cases z1
      replace z2 := z2.symm; replace z3 := z3.symm; replace z4 := z4.symm; replace z5 := z5.symm
      subst z2; subst z3; subst z4; subst z5
      exact Or.inl ⟨rfl, ex_rf⟩
      -- end
    · try have e43 := bIn c43
      refine VW.nrm ?_
      exact absurd ⟨e35, e43⟩ h
theorem veil_no3 (hC : ClW K P) (hL : EnL K P I n lq lv mv) (h6 : I 1032 0 ≤ 6) (hp : ((1 ≤ r ∧ r < 4) ∧ (0 ≤ t ∧ t < I 1032 0) ∧ 0 ≤ c ∧ c < I 1034 t)) (hw : 0 ≤ w ∧ w ≤ 2) (hv : -1000 ≤ v ∧ v ≤ 1000) (h : ¬ (I 1032 6 < 12 ∧ ¬ 0 < opN I n)) : Sp m_F_veil true ({ frames := 12, cells := 1, slots := 6, locals := 400 } : Room) (ex K P J I (.inr eISE)) K P J I [vR (some 1000), vI r, vI t, vI c, vI w, vI v] := by
  have spU := sp_Engine_isBusy (J := J) hC hL
  refine Sp.ofV (by decide) (Or.inl rfl) rfl ?_
  refine VW.iload_n (pc' := 1) d_F_veil_0 rfl rfl ?_
  refine VW.iconst (pc' := 2) d_F_veil_1 rfl (by decide) ?_
  refine VW.icmp_lt (tgt := 26) (pc' := 5) d_F_veil_2 rfl rfl (fun c2 => ?_) (fun c2 => ?_)
  case refine_1 => exact absurd c2 (by omega)
  refine VW.iload_n (pc' := 6) d_F_veil_5 rfl rfl ?_
  refine VW.iconst (pc' := 7) d_F_veil_6 rfl (by decide) ?_
  refine VW.icmp_ge (tgt := 26) (pc' := 10) d_F_veil_7 rfl rfl (fun c7 => ?_) (fun c7 => ?_)
  case refine_1 => exact absurd c7 (by omega)
  refine VW.aload_n (pc' := 11) d_F_veil_10 rfl rfl ?_
  refine VW.gP (ci := 10) (T := T10) (N := 11) (k := 0) (k' := 0) (pc' := 14) d_F_veil_11 rfl lk_F_12 in10 rfl rfl rfl rfl (by first | exact hC.k 0 rfl | exact hC.k 9 rfl | exact hC.k 2 rfl | exact hC.k 4 rfl | exact hC.st.1 | exact hC.sc.1) (by first | exact hC.p 1 rfl | exact hC.p 0 rfl | exact hC.p 10 rfl | exact hC.p 16 rfl | rfl) ?_
  refine VW.iload_n (pc' := 15) d_F_veil_14 rfl rfl ?_
  refine VW.iload_n (pc' := 16) d_F_veil_15 rfl rfl ?_
  refine VW.cV (ci := 7) (T := T7) (N := 8) (pc' := 19) d_F_veil_16 rfl mv_Schema_hasColumn lk_F_93 rfl (by first | exact hC.k 0 rfl | exact hC.k 9 rfl | exact hC.k 2 rfl | exact hC.k 4 rfl | exact hC.st.1 | exact hC.sc.1) rfl rfl rfl (by decide) (by decide) (F_hasCol1 hC h6 hp.2) rfl rfl ?_
  refine VW.if_eq (tgt := 26) (pc' := 22) d_F_veil_19 rfl rfl (fun c19 => ?_) (fun c19 => ?_)
  case refine_1 => exact absurd c19 (by decide)
  refine VW.iconst (pc' := 23) d_F_veil_22 rfl (by decide) ?_
  refine VW.goto (pc' := 27) d_F_veil_23 rfl ?_
  refine VW.callSX (pc' := 30) d_F_veil_27 rfl (sp_F_demandPlace1 (by decide)) rfl ms_F_demandPlace.1 ms_F_demandPlace.2.1 rfl ms_F_demandPlace.2.2 lk_F_97 rfl rfl rfl (by decide) (by decide) (fun _ _ _ _ _ hz => by cases hz.1) (fun r _ _ _ _ hz => ?_)
  obtain ⟨z1, z2, z3, z4, z5⟩ := hz
  cases z1
  replace z2 := z2.symm; replace z3 := z3.symm; replace z4 := z4.symm; replace z5 := z5.symm
  subst z2; subst z3; subst z4; subst z5
  refine VW.iload (pc' := 32) d_F_veil_30 rfl rfl ?_
  refine VW.cS (pc' := 35) d_F_veil_32 rfl ms_F_isComparison lk_F_100 rfl rfl rfl (by decide) (by decide) (F_isCmp1 hw) rfl rfl ?_
  refine VW.if_eq (tgt := 50) (pc' := 38) d_F_veil_35 rfl rfl (fun c35 => ?_) (fun c35 => ?_)
  case refine_1 => exact absurd c35 (by decide)
  refine VW.iload (pc' := 40) d_F_veil_38 rfl rfl ?_
  refine VW.cS (pc' := 43) d_F_veil_40 rfl ms_F_isNumber lk_F_104 rfl rfl rfl (by decide) (by decide) (F_isNum1 hv) rfl rfl ?_
  refine VW.if_eq (tgt := 50) (pc' := 46) d_F_veil_43 rfl rfl (fun c43 => ?_) (fun c43 => ?_)
  case refine_1 => exact absurd c43 (by decide)
  refine VW.iconst (pc' := 47) d_F_veil_46 rfl (by decide) ?_
  refine VW.goto (pc' := 51) d_F_veil_47 rfl ?_
  refine VW.callSX (pc' := 54) d_F_veil_51 rfl (sp_F_demandRange1 (by decide)) rfl ms_F_demandRange.1 ms_F_demandRange.2.1 rfl ms_F_demandRange.2.2 lk_F_70 rfl rfl rfl (by decide) (by decide) (fun _ _ _ _ _ hz => by cases hz.1) (fun r _ _ _ _ hz => ?_)
  obtain ⟨z1, z2, z3, z4, z5⟩ := hz
  cases z1
  replace z2 := z2.symm; replace z3 := z3.symm; replace z4 := z4.symm; replace z5 := z5.symm
  subst z2; subst z3; subst z4; subst z5
  refine VW.aload_n (pc' := 55) d_F_veil_54 rfl rfl ?_
  refine VW.gP (ci := 10) (T := T10) (N := 11) (k := 0) (k' := 0) (pc' := 58) d_F_veil_55 rfl lk_F_12 in10 rfl rfl rfl rfl (by first | exact hC.k 0 rfl | exact hC.k 9 rfl | exact hC.k 2 rfl | exact hC.k 4 rfl | exact hC.st.1 | exact hC.sc.1) (by first | exact hC.p 1 rfl | exact hC.p 0 rfl | exact hC.p 10 rfl | exact hC.p 16 rfl | rfl) ?_
  refine VW.gI (ci := 7) (T := T7) (N := 8) (k := 6) (k' := 6) (pc' := 61) d_F_veil_58 rfl lk_F_134 in7 rfl rfl rfl rfl (by first | exact hC.k 0 rfl | exact hC.k 9 rfl | exact hC.k 2 rfl | exact hC.k 4 rfl | exact hC.st.1 | exact hC.sc.1) (by first | exact hC.p 1 rfl | exact hC.p 0 rfl | exact hC.p 10 rfl | exact hC.p 16 rfl | rfl) ?_
  refine VW.bipush (pc' := 63) d_F_veil_61 rfl (by decide) ?_
  refine VW.icmp_ge (tgt := 80) (pc' := 66) d_F_veil_63 rfl rfl (fun c63 => ?_) (fun c63 => ?_)
  · refine VW.iconst (pc' := 81) d_F_veil_80 rfl (by decide) ?_
    refine VW.callSX (pc' := 84) d_F_veil_81 rfl (sp_F_demandState0) rfl ms_F_demandState.1 ms_F_demandState.2.1 rfl ms_F_demandState.2.2 lk_F_82 rfl rfl rfl (by decide) (by decide) (fun _ _ _ _ _ hz => ?_) (fun _ _ _ _ _ hz => by cases hz.1)
    obtain ⟨z1, z2, z3, z4, z5⟩ := hz
    cases z1
    replace z2 := z2.symm; replace z3 := z3.symm; replace z4 := z4.symm; replace z5 := z5.symm
    subst z2; subst z3; subst z4; subst z5
    exact Or.inl ⟨rfl, ex_rf⟩
    -- end
  · refine VW.aload_n (pc' := 67) d_F_veil_66 rfl rfl ?_
    refine VW.gP (ci := 10) (T := T10) (N := 11) (k := 1) (k' := 1) (pc' := 70) d_F_veil_67 rfl lk_F_21 in10 rfl rfl rfl rfl (by first | exact hC.k 0 rfl | exact hC.k 9 rfl | exact hC.k 2 rfl | exact hC.k 4 rfl | exact hC.st.1 | exact hC.sc.1) (by first | exact hC.p 1 rfl | exact hC.p 0 rfl | exact hC.p 10 rfl | exact hC.p 16 rfl | rfl) ?_
    refine VW.cV (ci := 0) (T := T0) (N := 8) (pc' := 73) d_F_veil_70 rfl mv_Engine_isBusy lk_F_78 rfl (by first | exact hC.k 0 rfl | exact hC.k 9 rfl | exact hC.k 2 rfl | exact hC.k 4 rfl | exact hC.st.1 | exact hC.sc.1) rfl rfl rfl (by decide) (by decide) (spU) rfl rfl ?_
    refine VW.if_ne (tgt := 80) (pc' := 76) d_F_veil_73 rfl rfl (fun c73 => ?_) (fun c73 => ?_)
    · try have e73 := bIn c73
      refine VW.iconst (pc' := 81) d_F_veil_80 rfl (by decide) ?_
      refine VW.callSX (pc' := 84) d_F_veil_81 rfl (sp_F_demandState0) rfl ms_F_demandState.1 ms_F_demandState.2.1 rfl ms_F_demandState.2.2 lk_F_82 rfl rfl rfl (by decide) (by decide) (fun _ _ _ _ _ hz => ?_) (fun _ _ _ _ _ hz => by cases hz.1)
      obtain ⟨z1, z2, z3, z4, z5⟩ := hz
      cases z1
      replace z2 := z2.symm; replace z3 := z3.symm; replace z4 := z4.symm; replace z5 := z5.symm
      subst z2; subst z3; subst z4; subst z5
      exact Or.inl ⟨rfl, ex_rf⟩
      -- end
    · try have e73 := bIe c73
      refine VW.nrm ?_
      exact absurd ⟨by omega, e73⟩ h
theorem veil_run (hC : ClW K P) (hL : EnL K P I n lq lv mv) (hQ : QnL K P I nq lqq) (h6 : I 1032 0 ≤ 6) (hp : ((1 ≤ r ∧ r < 4) ∧ (0 ≤ t ∧ t < I 1032 0) ∧ 0 ≤ c ∧ c < I 1034 t)) (hw : 0 ≤ w ∧ w ≤ 2) (hv : -1000 ≤ v ∧ v ≤ 1000) (h12 : I 1032 6 < 12) (hb : bI (0 < opN I n) = 0) (hd : 0 ≤ dpI I nq 1032 6 ∧ dpI I nq 1032 6 < 12) : Sp m_F_veil true ({ frames := 12, cells := 0, slots := 0, locals := 400 } : Room) (ex K P J (up2 (up2 (up2 (up2 (up2 (up2 (dpI I nq) 1040 (dpI I nq 1032 6 * 5) r) 1040 (dpI I nq 1032 6 * 5 + 1) t) 1040 (dpI I nq 1032 6 * 5 + 2) c) 1040 (dpI I nq 1032 6 * 5 + 3) w) 1040 (dpI I nq 1032 6 * 5 + 4) v) 1032 6 (dpI I nq 1032 6 + 1)) (.inl (some (vI (dpI I nq 1032 6 + 1))))) K P J I [vR (some 1000), vI r, vI t, vI c, vI w, vI v] := by
  have spU := sp_Engine_isBusy (J := J) hC hL
  rw [hb] at spU
  have spD := sp_F_dropPlans (J := J) hC hQ
  have spA := sp_Schema_addVeil (J := J) (I := dpI I nq) (a := r) (b := t) (e := c) (f := w) (g := v) hC.sc hd
  refine Sp.ofV (by decide) (Or.inl rfl) rfl ?_
  refine VW.iload_n (pc' := 1) d_F_veil_0 rfl rfl ?_
  refine VW.iconst (pc' := 2) d_F_veil_1 rfl (by decide) ?_
  refine VW.icmp_lt (tgt := 26) (pc' := 5) d_F_veil_2 rfl rfl (fun c2 => ?_) (fun c2 => ?_)
  case refine_1 => exact absurd c2 (by omega)
  refine VW.iload_n (pc' := 6) d_F_veil_5 rfl rfl ?_
  refine VW.iconst (pc' := 7) d_F_veil_6 rfl (by decide) ?_
  refine VW.icmp_ge (tgt := 26) (pc' := 10) d_F_veil_7 rfl rfl (fun c7 => ?_) (fun c7 => ?_)
  case refine_1 => exact absurd c7 (by omega)
  refine VW.aload_n (pc' := 11) d_F_veil_10 rfl rfl ?_
  refine VW.gP (ci := 10) (T := T10) (N := 11) (k := 0) (k' := 0) (pc' := 14) d_F_veil_11 rfl lk_F_12 in10 rfl rfl rfl rfl (by first | exact hC.k 0 rfl | exact hC.k 9 rfl | exact hC.k 2 rfl | exact hC.k 4 rfl | exact hC.st.1 | exact hC.sc.1) (by first | exact hC.p 1 rfl | exact hC.p 0 rfl | exact hC.p 10 rfl | exact hC.p 16 rfl | rfl) ?_
  refine VW.iload_n (pc' := 15) d_F_veil_14 rfl rfl ?_
  refine VW.iload_n (pc' := 16) d_F_veil_15 rfl rfl ?_
  refine VW.cV (ci := 7) (T := T7) (N := 8) (pc' := 19) d_F_veil_16 rfl mv_Schema_hasColumn lk_F_93 rfl (by first | exact hC.k 0 rfl | exact hC.k 9 rfl | exact hC.k 2 rfl | exact hC.k 4 rfl | exact hC.st.1 | exact hC.sc.1) rfl rfl rfl (by decide) (by decide) (F_hasCol1 hC h6 hp.2) rfl rfl ?_
  refine VW.if_eq (tgt := 26) (pc' := 22) d_F_veil_19 rfl rfl (fun c19 => ?_) (fun c19 => ?_)
  case refine_1 => exact absurd c19 (by decide)
  refine VW.iconst (pc' := 23) d_F_veil_22 rfl (by decide) ?_
  refine VW.goto (pc' := 27) d_F_veil_23 rfl ?_
  refine VW.callSX (pc' := 30) d_F_veil_27 rfl (sp_F_demandPlace1 (by decide)) rfl ms_F_demandPlace.1 ms_F_demandPlace.2.1 rfl ms_F_demandPlace.2.2 lk_F_97 rfl rfl rfl (by decide) (by decide) (fun _ _ _ _ _ hz => by cases hz.1) (fun r _ _ _ _ hz => ?_)
  obtain ⟨z1, z2, z3, z4, z5⟩ := hz
  cases z1
  replace z2 := z2.symm; replace z3 := z3.symm; replace z4 := z4.symm; replace z5 := z5.symm
  subst z2; subst z3; subst z4; subst z5
  refine VW.iload (pc' := 32) d_F_veil_30 rfl rfl ?_
  refine VW.cS (pc' := 35) d_F_veil_32 rfl ms_F_isComparison lk_F_100 rfl rfl rfl (by decide) (by decide) (F_isCmp1 hw) rfl rfl ?_
  refine VW.if_eq (tgt := 50) (pc' := 38) d_F_veil_35 rfl rfl (fun c35 => ?_) (fun c35 => ?_)
  case refine_1 => exact absurd c35 (by decide)
  refine VW.iload (pc' := 40) d_F_veil_38 rfl rfl ?_
  refine VW.cS (pc' := 43) d_F_veil_40 rfl ms_F_isNumber lk_F_104 rfl rfl rfl (by decide) (by decide) (F_isNum1 hv) rfl rfl ?_
  refine VW.if_eq (tgt := 50) (pc' := 46) d_F_veil_43 rfl rfl (fun c43 => ?_) (fun c43 => ?_)
  case refine_1 => exact absurd c43 (by decide)
  refine VW.iconst (pc' := 47) d_F_veil_46 rfl (by decide) ?_
  refine VW.goto (pc' := 51) d_F_veil_47 rfl ?_
  refine VW.callSX (pc' := 54) d_F_veil_51 rfl (sp_F_demandRange1 (by decide)) rfl ms_F_demandRange.1 ms_F_demandRange.2.1 rfl ms_F_demandRange.2.2 lk_F_70 rfl rfl rfl (by decide) (by decide) (fun _ _ _ _ _ hz => by cases hz.1) (fun r _ _ _ _ hz => ?_)
  obtain ⟨z1, z2, z3, z4, z5⟩ := hz
  cases z1
  replace z2 := z2.symm; replace z3 := z3.symm; replace z4 := z4.symm; replace z5 := z5.symm
  subst z2; subst z3; subst z4; subst z5
  refine VW.aload_n (pc' := 55) d_F_veil_54 rfl rfl ?_
  refine VW.gP (ci := 10) (T := T10) (N := 11) (k := 0) (k' := 0) (pc' := 58) d_F_veil_55 rfl lk_F_12 in10 rfl rfl rfl rfl (by first | exact hC.k 0 rfl | exact hC.k 9 rfl | exact hC.k 2 rfl | exact hC.k 4 rfl | exact hC.st.1 | exact hC.sc.1) (by first | exact hC.p 1 rfl | exact hC.p 0 rfl | exact hC.p 10 rfl | exact hC.p 16 rfl | rfl) ?_
  refine VW.gI (ci := 7) (T := T7) (N := 8) (k := 6) (k' := 6) (pc' := 61) d_F_veil_58 rfl lk_F_134 in7 rfl rfl rfl rfl (by first | exact hC.k 0 rfl | exact hC.k 9 rfl | exact hC.k 2 rfl | exact hC.k 4 rfl | exact hC.st.1 | exact hC.sc.1) (by first | exact hC.p 1 rfl | exact hC.p 0 rfl | exact hC.p 10 rfl | exact hC.p 16 rfl | rfl) ?_
  refine VW.bipush (pc' := 63) d_F_veil_61 rfl (by decide) ?_
  refine VW.icmp_ge (tgt := 80) (pc' := 66) d_F_veil_63 rfl rfl (fun c63 => ?_) (fun c63 => ?_)
  case refine_1 => exact absurd c63 (by omega)
  refine VW.aload_n (pc' := 67) d_F_veil_66 rfl rfl ?_
  refine VW.gP (ci := 10) (T := T10) (N := 11) (k := 1) (k' := 1) (pc' := 70) d_F_veil_67 rfl lk_F_21 in10 rfl rfl rfl rfl (by first | exact hC.k 0 rfl | exact hC.k 9 rfl | exact hC.k 2 rfl | exact hC.k 4 rfl | exact hC.st.1 | exact hC.sc.1) (by first | exact hC.p 1 rfl | exact hC.p 0 rfl | exact hC.p 10 rfl | exact hC.p 16 rfl | rfl) ?_
  refine VW.cV (ci := 0) (T := T0) (N := 8) (pc' := 73) d_F_veil_70 rfl mv_Engine_isBusy lk_F_78 rfl (by first | exact hC.k 0 rfl | exact hC.k 9 rfl | exact hC.k 2 rfl | exact hC.k 4 rfl | exact hC.st.1 | exact hC.sc.1) rfl rfl rfl (by decide) (by decide) (spU) rfl rfl ?_
  refine VW.if_ne (tgt := 80) (pc' := 76) d_F_veil_73 rfl rfl (fun c73 => ?_) (fun c73 => ?_)
  case refine_1 => exact absurd c73 (by decide)
  refine VW.iconst (pc' := 77) d_F_veil_76 rfl (by decide) ?_
  refine VW.goto (pc' := 81) d_F_veil_77 rfl ?_
  refine VW.callSX (pc' := 84) d_F_veil_81 rfl (sp_F_demandState1 (by decide)) rfl ms_F_demandState.1 ms_F_demandState.2.1 rfl ms_F_demandState.2.2 lk_F_82 rfl rfl rfl (by decide) (by decide) (fun _ _ _ _ _ hz => by cases hz.1) (fun r _ _ _ _ hz => ?_)
  obtain ⟨z1, z2, z3, z4, z5⟩ := hz
  cases z1
  replace z2 := z2.symm; replace z3 := z3.symm; replace z4 := z4.symm; replace z5 := z5.symm
  subst z2; subst z3; subst z4; subst z5
  refine VW.aload_n (pc' := 85) d_F_veil_84 rfl rfl ?_
  refine VW.cV (ci := 10) (T := T10) (N := 11) (pc' := 88) d_F_veil_85 rfl mv_F_dropPlans lk_F_85 rfl (by first | exact hC.k 0 rfl | exact hC.k 9 rfl | exact hC.k 2 rfl | exact hC.k 4 rfl | exact hC.st.1 | exact hC.sc.1) rfl rfl rfl (by decide) (by decide) (spD) rfl rfl ?_
  refine VW.pop (pc' := 89) d_F_veil_88 rfl rfl ?_
  refine VW.aload_n (pc' := 90) d_F_veil_89 rfl rfl ?_
  refine VW.gP (ci := 10) (T := T10) (N := 11) (k := 0) (k' := 0) (pc' := 93) d_F_veil_90 rfl lk_F_12 in10 rfl rfl rfl rfl (by first | exact hC.k 0 rfl | exact hC.k 9 rfl | exact hC.k 2 rfl | exact hC.k 4 rfl | exact hC.st.1 | exact hC.sc.1) (by first | exact hC.p 1 rfl | exact hC.p 0 rfl | exact hC.p 10 rfl | exact hC.p 16 rfl | rfl) ?_
  refine VW.iload_n (pc' := 94) d_F_veil_93 rfl rfl ?_
  refine VW.iload_n (pc' := 95) d_F_veil_94 rfl rfl ?_
  refine VW.iload_n (pc' := 96) d_F_veil_95 rfl rfl ?_
  refine VW.iload (pc' := 98) d_F_veil_96 rfl rfl ?_
  refine VW.iload (pc' := 100) d_F_veil_98 rfl rfl ?_
  refine VW.cV (ci := 7) (T := T7) (N := 8) (pc' := 103) d_F_veil_100 rfl mv_Schema_addVeil lk_F_137 rfl (by first | exact hC.k 0 rfl | exact hC.k 9 rfl | exact hC.k 2 rfl | exact hC.k 4 rfl | exact hC.st.1 | exact hC.sc.1) rfl rfl rfl (by decide) (by decide) (spA) rfl rfl ?_
  exact VW.iret d_F_veil_103 rfl rfl (by decide) (by decide) ex_rf
end
