/-! check, refer, veil: what they throw -/
section
variable {K : KT} {P : PT} {J I : IT} {n lq nq lqq : Nat} {lv mv : Nat → Nat} {r t c w v o : Int}
theorem check_no1 (hC : ClW K P) (h6 : I 1032 0 ≤ 6) (hc : ¬ ((0 ≤ t ∧ t < I 1032 0) ∧ 0 ≤ c ∧ c < I 1034 t)) : Sp m_F_check true ({ frames := 12, cells := 1, slots := 6, locals := 400 } : Room) (ex K P J I (.inr eIOO)) K P J I [vR (some 1000), vI t, vI c, vI w, vI v] := by
  have spB : Sp m_Schema_hasColumn false (rmv 1 21) (ex K P J I (.inl (some (vI 0)))) K P J I [vR (some 1032), vI t, vI c] := by
    have := sp_Schema_hasColumn (J := J) (I := I) (a := t) (b := c) hC.sc h6
    rw [bI0 hc] at this
    exact this
  refine Sp.ofV (by decide) (Or.inl rfl) rfl ?_
  refine VW.aload_n (pc' := 1) d_F_check_0 rfl rfl ?_
  refine VW.gP (ci := 10) (T := T10) (N := 11) (k := 0) (k' := 0) (pc' := 4) d_F_check_1 rfl lk_F_12 in10 rfl rfl rfl rfl (by first | exact hC.k 0 rfl | exact hC.k 9 rfl | exact hC.k 2 rfl | exact hC.k 4 rfl | exact hC.st.1 | exact hC.sc.1) (by first | exact hC.p 1 rfl | exact hC.p 0 rfl | exact hC.p 10 rfl | exact hC.p 16 rfl | rfl) ?_
  refine VW.iload_n (pc' := 5) d_F_check_4 rfl rfl ?_
  refine VW.iload_n (pc' := 6) d_F_check_5 rfl rfl ?_
  refine VW.cV (ci := 7) (T := T7) (N := 8) (pc' := 9) d_F_check_6 rfl mv_Schema_hasColumn lk_F_93 rfl (by first | exact hC.k 0 rfl | exact hC.k 9 rfl | exact hC.k 2 rfl | exact hC.k 4 rfl | exact hC.st.1 | exact hC.sc.1) rfl rfl rfl (by decide) (by decide) (spB) rfl rfl ?_
  refine VW.callSX (pc' := 12) d_F_check_9 rfl (sp_F_demandPlace0) rfl ms_F_demandPlace.1 ms_F_demandPlace.2.1 rfl ms_F_demandPlace.2.2 lk_F_97 rfl rfl rfl (by decide) (by decide) (fun _ _ _ _ _ hz => ?_) (fun _ _ _ _ _ hz => by cases hz.1)
  obtain ⟨z1, z2, z3, z4, z5⟩ := hz
  cases z1
  replace z2 := z2.symm; replace z3 := z3.symm; replace z4 := z4.symm; replace z5 := z5.symm
  subst z2; subst z3; subst z4; subst z5
  exact Or.inl ⟨rfl, ex_rf⟩
  -- end
theorem check_no2 (hC : ClW K P) (h6 : I 1032 0 ≤ 6) (hc : (0 ≤ t ∧ t < I 1032 0) ∧ 0 ≤ c ∧ c < I 1034 t) (hw : ¬ ((0 ≤ w ∧ w ≤ 2) ∧ -1000 ≤ v ∧ v ≤ 1000)) : Sp m_F_check true ({ frames := 12, cells := 1, slots := 6, locals := 400 } : Room) (ex K P J I (.inr eIAE)) K P J I [vR (some 1000), vI t, vI c, vI w, vI v] := by
  have spB : Sp m_Schema_hasColumn false (rmv 1 21) (ex K P J I (.inl (some (vI 1)))) K P J I [vR (some 1032), vI t, vI c] := by
    have := sp_Schema_hasColumn (J := J) (I := I) (a := t) (b := c) hC.sc h6
    rw [bI1 hc] at this
    exact this
  refine Sp.ofV (by decide) (Or.inl rfl) rfl ?_
  refine VW.aload_n (pc' := 1) d_F_check_0 rfl rfl ?_
  refine VW.gP (ci := 10) (T := T10) (N := 11) (k := 0) (k' := 0) (pc' := 4) d_F_check_1 rfl lk_F_12 in10 rfl rfl rfl rfl (by first | exact hC.k 0 rfl | exact hC.k 9 rfl | exact hC.k 2 rfl | exact hC.k 4 rfl | exact hC.st.1 | exact hC.sc.1) (by first | exact hC.p 1 rfl | exact hC.p 0 rfl | exact hC.p 10 rfl | exact hC.p 16 rfl | rfl) ?_
  refine VW.iload_n (pc' := 5) d_F_check_4 rfl rfl ?_
  refine VW.iload_n (pc' := 6) d_F_check_5 rfl rfl ?_
  refine VW.cV (ci := 7) (T := T7) (N := 8) (pc' := 9) d_F_check_6 rfl mv_Schema_hasColumn lk_F_93 rfl (by first | exact hC.k 0 rfl | exact hC.k 9 rfl | exact hC.k 2 rfl | exact hC.k 4 rfl | exact hC.st.1 | exact hC.sc.1) rfl rfl rfl (by decide) (by decide) (spB) rfl rfl ?_
  refine VW.callSX (pc' := 12) d_F_check_9 rfl (sp_F_demandPlace1 (by decide)) rfl ms_F_demandPlace.1 ms_F_demandPlace.2.1 rfl ms_F_demandPlace.2.2 lk_F_97 rfl rfl rfl (by decide) (by decide) (fun _ _ _ _ _ hz => by cases hz.1) (fun r _ _ _ _ hz => ?_)
  obtain ⟨z1, z2, z3, z4, z5⟩ := hz
  cases z1
  replace z2 := z2.symm; replace z3 := z3.symm; replace z4 := z4.symm; replace z5 := z5.symm
  subst z2; subst z3; subst z4; subst z5
  refine VW.iload_n (pc' := 13) d_F_check_12 rfl rfl ?_
  refine VW.cS (pc' := 16) d_F_check_13 rfl ms_F_isComparison lk_F_100 rfl rfl rfl (by decide) (by decide) (sp_F_isComparison) rfl rfl ?_
  refine VW.if_eq (tgt := 31) (pc' := 19) d_F_check_16 rfl rfl (fun c16 => ?_) (fun c16 => ?_)
  · try have e16 := bIe c16
    refine VW.iconst (pc' := 32) d_F_check_31 rfl (by decide) ?_
    refine VW.callSX (pc' := 35) d_F_check_32 rfl (sp_F_demandRange0) rfl ms_F_demandRange.1 ms_F_demandRange.2.1 rfl ms_F_demandRange.2.2 lk_F_70 rfl rfl rfl (by decide) (by decide) (fun _ _ _ _ _ hz => ?_) (fun _ _ _ _ _ hz => by cases hz.1)
    obtain ⟨z1, z2, z3, z4, z5⟩ := hz
    cases z1
    replace z2 := z2.symm; replace z3 := z3.symm; replace z4 := z4.symm; replace z5 := z5.symm
    subst z2; subst z3; subst z4; subst z5
    exact Or.inl ⟨rfl, ex_rf⟩
    -- end
  · try have e16 := bIn c16
    refine VW.iload (pc' := 21) d_F_check_19 rfl rfl ?_
    refine VW.cS (pc' := 24) d_F_check_21 rfl ms_F_isNumber lk_F_104 rfl rfl rfl (by decide) (by decide) (sp_F_isNumber) rfl rfl ?_
    refine VW.if_eq (tgt := 31) (pc' := 27) d_F_check_24 rfl rfl (fun c24 => ?_) (fun c24 => ?_)
    · try have e24 := bIe c24
      refine VW.iconst (pc' := 32) d_F_check_31 rfl (by decide) ?_
      refine VW.callSX (pc' := 35) d_F_check_32 rfl (sp_F_demandRange0) rfl ms_F_demandRange.1 ms_F_demandRange.2.1 rfl ms_F_demandRange.2.2 lk_F_70 rfl rfl rfl (by decide) (by decide) (fun _ _ _ _ _ hz => ?_) (fun _ _ _ _ _ hz => by cases hz.1)
      obtain ⟨z1, z2, z3, z4, z5⟩ := hz
      cases z1
      replace z2 := z2.symm; replace z3 := z3.symm; replace z4 := z4.symm; replace z5 := z5.symm
      subst z2; subst z3; subst z4; subst z5
      exact Or.inl ⟨rfl, ex_rf⟩
      -- end
    · try have e24 := bIn c24
      refine VW.nrm ?_
      exact absurd ⟨e16, e24⟩ hw
theorem check_run (hC : ClW K P) (hL : EnL K P I n lq lv mv) (hQ : QnL K P I nq lqq) (h6 : I 1032 0 ≤ 6) (hc : (0 ≤ t ∧ t < I 1032 0) ∧ 0 ≤ c ∧ c < I 1034 t) (hw : 0 ≤ w ∧ w ≤ 2) (hv : -1000 ≤ v ∧ v ≤ 1000) (h4 : I 1035 t < 4) (h0 : rwCnt I 1161 t 8 = 0) (hb : bI (0 < opN I n) = 0) (h6' : 0 ≤ dpI I nq 1035 t ∧ dpI I nq 1035 t < 4) : Sp m_F_check true ({ frames := 12, cells := 0, slots := 0, locals := 400 } : Room) (ex K P J (up2 (up2 (up2 (up2 (dpI I nq) 1036 ((t * 4 + dpI I nq 1035 t) * 3) c) 1036 (((t * 4 + dpI I nq 1035 t) * 3) + 1) w) 1036 (((t * 4 + dpI I nq 1035 t) * 3) + 2) v) 1035 t (dpI I nq 1035 t + 1)) (.inl (some (vI (dpI I nq 1035 t + 1))))) K P J I [vR (some 1000), vI t, vI c, vI w, vI v] := by
  have spB : Sp m_Schema_hasColumn false (rmv 1 21) (ex K P J I (.inl (some (vI 1)))) K P J I [vR (some 1032), vI t, vI c] := by
    have := sp_Schema_hasColumn (J := J) (I := I) (a := t) (b := c) hC.sc h6
    rw [bI1 hc] at this
    exact this
  have spU := sp_Engine_isBusy (J := J) hC hL
  rw [hb] at spU
  have spN := sp_Rows_count (J := J) (I := I) (t := t) hC.st ⟨hc.1.1, by omega⟩
  rw [h0] at spN
  have spD := sp_F_dropPlans (J := J) hC hQ
  have spW : Sp m_F_isComparison false (rmv 0 0) (ex K P J I (.inl (some (vI 1)))) K P J I [vI w] := by
    have := sp_F_isComparison (K := K) (P := P) (J := J) (I := I) (a := w)
    rw [bI1 hw] at this
    exact this
  have spV : Sp m_F_isNumber false (rmv 0 0) (ex K P J I (.inl (some (vI 1)))) K P J I [vI v] := by
    have := sp_F_isNumber (K := K) (P := P) (J := J) (I := I) (a := v)
    rw [bI1 hv] at this
    exact this
  have spA := sp_Schema_addCheck (J := J) (I := dpI I nq) (a := t) (b := c) (e := w) (f := v) hC.sc (by decide) ⟨hc.1.1, by omega⟩ h6'
  refine Sp.ofV (by decide) (Or.inl rfl) rfl ?_
  refine VW.aload_n (pc' := 1) d_F_check_0 rfl rfl ?_
  refine VW.gP (ci := 10) (T := T10) (N := 11) (k := 0) (k' := 0) (pc' := 4) d_F_check_1 rfl lk_F_12 in10 rfl rfl rfl rfl (by first | exact hC.k 0 rfl | exact hC.k 9 rfl | exact hC.k 2 rfl | exact hC.k 4 rfl | exact hC.st.1 | exact hC.sc.1) (by first | exact hC.p 1 rfl | exact hC.p 0 rfl | exact hC.p 10 rfl | exact hC.p 16 rfl | rfl) ?_
  refine VW.iload_n (pc' := 5) d_F_check_4 rfl rfl ?_
  refine VW.iload_n (pc' := 6) d_F_check_5 rfl rfl ?_
  refine VW.cV (ci := 7) (T := T7) (N := 8) (pc' := 9) d_F_check_6 rfl mv_Schema_hasColumn lk_F_93 rfl (by first | exact hC.k 0 rfl | exact hC.k 9 rfl | exact hC.k 2 rfl | exact hC.k 4 rfl | exact hC.st.1 | exact hC.sc.1) rfl rfl rfl (by decide) (by decide) (spB) rfl rfl ?_
  refine VW.callSX (pc' := 12) d_F_check_9 rfl (sp_F_demandPlace1 (by decide)) rfl ms_F_demandPlace.1 ms_F_demandPlace.2.1 rfl ms_F_demandPlace.2.2 lk_F_97 rfl rfl rfl (by decide) (by decide) (fun _ _ _ _ _ hz => by cases hz.1) (fun r _ _ _ _ hz => ?_)
  obtain ⟨z1, z2, z3, z4, z5⟩ := hz
  cases z1
  replace z2 := z2.symm; replace z3 := z3.symm; replace z4 := z4.symm; replace z5 := z5.symm
  subst z2; subst z3; subst z4; subst z5
  refine VW.iload_n (pc' := 13) d_F_check_12 rfl rfl ?_
  refine VW.cS (pc' := 16) d_F_check_13 rfl ms_F_isComparison lk_F_100 rfl rfl rfl (by decide) (by decide) (spW) rfl rfl ?_
  refine VW.if_eq (tgt := 31) (pc' := 19) d_F_check_16 rfl rfl (fun c16 => ?_) (fun c16 => ?_)
  case refine_1 => exact absurd c16 (by decide)
  refine VW.iload (pc' := 21) d_F_check_19 rfl rfl ?_
  refine VW.cS (pc' := 24) d_F_check_21 rfl ms_F_isNumber lk_F_104 rfl rfl rfl (by decide) (by decide) (spV) rfl rfl ?_
  refine VW.if_eq (tgt := 31) (pc' := 27) d_F_check_24 rfl rfl (fun c24 => ?_) (fun c24 => ?_)
  case refine_1 => exact absurd c24 (by decide)
  refine VW.iconst (pc' := 28) d_F_check_27 rfl (by decide) ?_
  refine VW.goto (pc' := 32) d_F_check_28 rfl ?_
  refine VW.callSX (pc' := 35) d_F_check_32 rfl (sp_F_demandRange1 (by decide)) rfl ms_F_demandRange.1 ms_F_demandRange.2.1 rfl ms_F_demandRange.2.2 lk_F_70 rfl rfl rfl (by decide) (by decide) (fun _ _ _ _ _ hz => by cases hz.1) (fun r _ _ _ _ hz => ?_)
  obtain ⟨z1, z2, z3, z4, z5⟩ := hz
  cases z1
  replace z2 := z2.symm; replace z3 := z3.symm; replace z4 := z4.symm; replace z5 := z5.symm
  subst z2; subst z3; subst z4; subst z5
  refine VW.aload_n (pc' := 36) d_F_check_35 rfl rfl ?_
  refine VW.gP (ci := 10) (T := T10) (N := 11) (k := 0) (k' := 0) (pc' := 39) d_F_check_36 rfl lk_F_12 in10 rfl rfl rfl rfl (by first | exact hC.k 0 rfl | exact hC.k 9 rfl | exact hC.k 2 rfl | exact hC.k 4 rfl | exact hC.st.1 | exact hC.sc.1) (by first | exact hC.p 1 rfl | exact hC.p 0 rfl | exact hC.p 10 rfl | exact hC.p 16 rfl | rfl) ?_
  refine VW.gP (ci := 7) (T := T7) (N := 8) (k := 2) (k' := 2) (pc' := 42) d_F_check_39 rfl lk_F_107 in7 rfl rfl rfl rfl (by first | exact hC.k 0 rfl | exact hC.k 9 rfl | exact hC.k 2 rfl | exact hC.k 4 rfl | exact hC.st.1 | exact hC.sc.1) (by first | exact hC.p 1 rfl | exact hC.p 0 rfl | exact hC.p 10 rfl | exact hC.p 16 rfl | rfl) ?_
  refine VW.iload_n (pc' := 43) d_F_check_42 rfl rfl ?_
  refine VW.ild (pc' := 44) d_F_check_43 rfl (by first | exact hC.k 0 rfl | exact hC.k 9 rfl | exact hC.k 2 rfl | exact hC.k 4 rfl | exact hC.st.1 | exact hC.sc.1) (by omega) (by omega) (by first | exact hC.p 1 rfl | exact hC.p 0 rfl | exact hC.p 10 rfl | exact hC.p 16 rfl | rfl) ?_
  refine VW.iconst (pc' := 45) d_F_check_44 rfl (by decide) ?_
  refine VW.icmp_ge (tgt := 76) (pc' := 48) d_F_check_45 rfl rfl (fun c45 => ?_) (fun c45 => ?_)
  case refine_1 => exact absurd c45 (by omega)
  refine VW.aload_n (pc' := 49) d_F_check_48 rfl rfl ?_
  refine VW.gP (ci := 10) (T := T10) (N := 11) (k := 1) (k' := 1) (pc' := 52) d_F_check_49 rfl lk_F_21 in10 rfl rfl rfl rfl (by first | exact hC.k 0 rfl | exact hC.k 9 rfl | exact hC.k 2 rfl | exact hC.k 4 rfl | exact hC.st.1 | exact hC.sc.1) (by first | exact hC.p 1 rfl | exact hC.p 0 rfl | exact hC.p 10 rfl | exact hC.p 16 rfl | rfl) ?_
  refine VW.gP (ci := 0) (T := T0) (N := 8) (k := 1) (k' := 1) (pc' := 55) d_F_check_52 rfl lk_F_110 in0 rfl rfl rfl rfl (by first | exact hC.k 0 rfl | exact hC.k 9 rfl | exact hC.k 2 rfl | exact hC.k 4 rfl | exact hC.st.1 | exact hC.sc.1) (by first | exact hC.p 1 rfl | exact hC.p 0 rfl | exact hC.p 10 rfl | exact hC.p 16 rfl | rfl) ?_
  refine VW.iload_n (pc' := 56) d_F_check_55 rfl rfl ?_
  refine VW.cV (ci := 6) (T := T6) (N := 1) (pc' := 59) d_F_check_56 rfl mv_Rows_count lk_F_114 rfl (by first | exact hC.k 0 rfl | exact hC.k 9 rfl | exact hC.k 2 rfl | exact hC.k 4 rfl | exact hC.st.1 | exact hC.sc.1) rfl rfl rfl (by decide) (by decide) (spN) rfl rfl ?_
  refine VW.if_ne (tgt := 76) (pc' := 62) d_F_check_59 rfl rfl (fun c59 => ?_) (fun c59 => ?_)
  case refine_1 => exact absurd c59 (by decide)
  refine VW.aload_n (pc' := 63) d_F_check_62 rfl rfl ?_
  refine VW.gP (ci := 10) (T := T10) (N := 11) (k := 1) (k' := 1) (pc' := 66) d_F_check_63 rfl lk_F_21 in10 rfl rfl rfl rfl (by first | exact hC.k 0 rfl | exact hC.k 9 rfl | exact hC.k 2 rfl | exact hC.k 4 rfl | exact hC.st.1 | exact hC.sc.1) (by first | exact hC.p 1 rfl | exact hC.p 0 rfl | exact hC.p 10 rfl | exact hC.p 16 rfl | rfl) ?_
  refine VW.cV (ci := 0) (T := T0) (N := 8) (pc' := 69) d_F_check_66 rfl mv_Engine_isBusy lk_F_78 rfl (by first | exact hC.k 0 rfl | exact hC.k 9 rfl | exact hC.k 2 rfl | exact hC.k 4 rfl | exact hC.st.1 | exact hC.sc.1) rfl rfl rfl (by decide) (by decide) (spU) rfl rfl ?_
  refine VW.if_ne (tgt := 76) (pc' := 72) d_F_check_69 rfl rfl (fun c69 => ?_) (fun c69 => ?_)
  case refine_1 => exact absurd c69 (by decide)
  refine VW.iconst (pc' := 73) d_F_check_72 rfl (by decide) ?_
  refine VW.goto (pc' := 77) d_F_check_73 rfl ?_
  refine VW.callSX (pc' := 80) d_F_check_77 rfl (sp_F_demandState1 (by decide)) rfl ms_F_demandState.1 ms_F_demandState.2.1 rfl ms_F_demandState.2.2 lk_F_82 rfl rfl rfl (by decide) (by decide) (fun _ _ _ _ _ hz => by cases hz.1) (fun r _ _ _ _ hz => ?_)
  obtain ⟨z1, z2, z3, z4, z5⟩ := hz
  cases z1
  replace z2 := z2.symm; replace z3 := z3.symm; replace z4 := z4.symm; replace z5 := z5.symm
  subst z2; subst z3; subst z4; subst z5
  refine VW.aload_n (pc' := 81) d_F_check_80 rfl rfl ?_
  refine VW.cV (ci := 10) (T := T10) (N := 11) (pc' := 84) d_F_check_81 rfl mv_F_dropPlans lk_F_85 rfl (by first | exact hC.k 0 rfl | exact hC.k 9 rfl | exact hC.k 2 rfl | exact hC.k 4 rfl | exact hC.st.1 | exact hC.sc.1) rfl rfl rfl (by decide) (by decide) (spD) rfl rfl ?_
  refine VW.pop (pc' := 85) d_F_check_84 rfl rfl ?_
  refine VW.aload_n (pc' := 86) d_F_check_85 rfl rfl ?_
  refine VW.gP (ci := 10) (T := T10) (N := 11) (k := 0) (k' := 0) (pc' := 89) d_F_check_86 rfl lk_F_12 in10 rfl rfl rfl rfl (by first | exact hC.k 0 rfl | exact hC.k 9 rfl | exact hC.k 2 rfl | exact hC.k 4 rfl | exact hC.st.1 | exact hC.sc.1) (by first | exact hC.p 1 rfl | exact hC.p 0 rfl | exact hC.p 10 rfl | exact hC.p 16 rfl | rfl) ?_
  refine VW.iload_n (pc' := 90) d_F_check_89 rfl rfl ?_
  refine VW.iload_n (pc' := 91) d_F_check_90 rfl rfl ?_
  refine VW.iload_n (pc' := 92) d_F_check_91 rfl rfl ?_
  refine VW.iload (pc' := 94) d_F_check_92 rfl rfl ?_
  refine VW.cV (ci := 7) (T := T7) (N := 8) (pc' := 97) d_F_check_94 rfl mv_Schema_addCheck lk_F_119 rfl (by first | exact hC.k 0 rfl | exact hC.k 9 rfl | exact hC.k 2 rfl | exact hC.k 4 rfl | exact hC.st.1 | exact hC.sc.1) rfl rfl rfl (by decide) (by decide) (spA) rfl rfl ?_
  exact VW.iret d_F_check_97 rfl rfl (by decide) (by decide) ex_rf
end
