/-! queries are built: scan filter filterColumns ratio group combine -/
section
variable {K : KT} {P : PT} {J I : IT} {q : Nat} {t c w v o r nt n : Int}
theorem tkY (hQ : QuW K P q) (h : n ≤ I q 7 ∧ I q 0 < 12) : Sp m_Query_takesOperator false (rmv 0 0) (ex K P J I (.inl (some (vI 1)))) K P J I [vR (some q), vI n] := by
  have := sp_Query_takesOperator (K := K) (P := P) (J := J) (I := I) (n := n) hQ
  rw [bI1 h] at this
  exact this
theorem tkN (hQ : QuW K P q) (h : ¬ (n ≤ I q 7 ∧ I q 0 < 12)) : Sp m_Query_takesOperator false (rmv 0 0) (ex K P J I (.inl (some (vI 0)))) K P J I [vR (some q), vI n] := by
  have := sp_Query_takesOperator (K := K) (P := P) (J := J) (I := I) (n := n) hQ
  rw [bI0 h] at this
  exact this
theorem F_isNum0 (h : ¬ (-1000 ≤ v ∧ v ≤ 1000)) : Sp m_F_isNumber false (rmv 0 0) (ex K P J I (.inl (some (vI 0)))) K P J I [vI v] := by
  have := sp_F_isNumber (K := K) (P := P) (J := J) (I := I) (a := v)
  rw [bI0 h] at this
  exact this
theorem F_isCmp0 (h : ¬ (0 ≤ w ∧ w ≤ 2)) : Sp m_F_isComparison false (rmv 0 0) (ex K P J I (.inl (some (vI 0)))) K P J I [vI w] := by
  have := sp_F_isComparison (K := K) (P := P) (J := J) (I := I) (a := w)
  rw [bI0 h] at this
  exact this
theorem F_hasTab0 (hC : ClW K P) (ho : ¬ (0 ≤ o ∧ o < I 1032 0)) : Sp m_Schema_hasTable false (rmv 0 0) (ex K P J I (.inl (some (vI 0)))) K P J I [vR (some 1032), vI o] := by
  have := sp_Schema_hasTable (J := J) (I := I) (a := o) hC.sc
  rw [bI0 ho] at this
  exact this
theorem scan_no1 (hC : ClW K P) (h : ¬ (0 ≤ t ∧ t < I 1032 0)) : Sp m_F_scan true ({ frames := 12, cells := 1, slots := 6, locals := 400 } : Room) (ex K P J I (.inr eIOO)) K P J I [vR (some 1000), vI t] := by
  refine Sp.ofV (by decide) (Or.inl rfl) rfl ?_
  refine VW.aload_n (pc' := 1) d_F_scan_0 rfl rfl ?_
  refine VW.gP (ci := 10) (T := T10) (N := 11) (k := 0) (k' := 0) (pc' := 4) d_F_scan_1 rfl lk_F_12 in10 rfl rfl rfl rfl (by first | exact hC.k 0 rfl | exact hC.k 2 rfl | exact hC.k 3 rfl | exact hQ.k) (by first | exact hp | exact hC.p 0 rfl | exact hC.p 9 rfl | rfl) ?_
  refine VW.iload_n (pc' := 5) d_F_scan_4 rfl rfl ?_
  refine VW.cV (ci := 7) (T := T7) (N := 8) (pc' := 8) d_F_scan_5 rfl mv_Schema_hasTable lk_F_123 rfl (by first | exact hC.k 0 rfl | exact hC.k 2 rfl | exact hC.k 3 rfl | exact hQ.k) rfl rfl rfl (by decide) (by decide) (F_hasTab0 hC h) rfl rfl ?_
  refine VW.callSX (pc' := 11) d_F_scan_8 rfl (sp_F_demandPlace0) rfl ms_F_demandPlace.1 ms_F_demandPlace.2.1 rfl ms_F_demandPlace.2.2 lk_F_97 rfl rfl rfl (by decide) (by decide) (fun _ _ _ _ _ hz => ?_) (fun _ _ _ _ _ hz => by cases hz.1)
  obtain ⟨z1, z2, z3, z4, z5⟩ := hz
  cases z1
  replace z2 := z2.symm; replace z3 := z3.symm; replace z4 := z4.symm; replace z5 := z5.symm
  subst z2; subst z3; subst z4; subst z5
  exact Or.inl ⟨rfl, ex_rf⟩
  -- end
theorem scan_no2 (hC : ClW K P) (hp : P 1000 10 = some q) (hQ : QuW K P q) (ht : 0 ≤ t ∧ t < I 1032 0) (h : ¬ (I q 7 < 6 ∧ I q 0 < 12 ∧ I q 1 < 3)) : Sp m_F_scan true ({ frames := 12, cells := 1, slots := 6, locals := 400 } : Room) (ex K P J I (.inr eISE)) K P J I [vR (some 1000), vI t] := by
  refine Sp.ofV (by decide) (Or.inl rfl) rfl ?_
  refine VW.aload_n (pc' := 1) d_F_scan_0 rfl rfl ?_
  refine VW.gP (ci := 10) (T := T10) (N := 11) (k := 0) (k' := 0) (pc' := 4) d_F_scan_1 rfl lk_F_12 in10 rfl rfl rfl rfl (by first | exact hC.k 0 rfl | exact hC.k 2 rfl | exact hC.k 3 rfl | exact hQ.k) (by first | exact hp | exact hC.p 0 rfl | exact hC.p 9 rfl | rfl) ?_
  refine VW.iload_n (pc' := 5) d_F_scan_4 rfl rfl ?_
  refine VW.cV (ci := 7) (T := T7) (N := 8) (pc' := 8) d_F_scan_5 rfl mv_Schema_hasTable lk_F_123 rfl (by first | exact hC.k 0 rfl | exact hC.k 2 rfl | exact hC.k 3 rfl | exact hQ.k) rfl rfl rfl (by decide) (by decide) (F_hasTab1 hC ht) rfl rfl ?_
  refine VW.callSX (pc' := 11) d_F_scan_8 rfl (sp_F_demandPlace1 (by decide)) rfl ms_F_demandPlace.1 ms_F_demandPlace.2.1 rfl ms_F_demandPlace.2.2 lk_F_97 rfl rfl rfl (by decide) (by decide) (fun _ _ _ _ _ hz => by cases hz.1) (fun r _ _ _ _ hz => ?_)
  obtain ⟨z1, z2, z3, z4, z5⟩ := hz
  cases z1
  replace z2 := z2.symm; replace z3 := z3.symm; replace z4 := z4.symm; replace z5 := z5.symm
  subst z2; subst z3; subst z4; subst z5
  refine VW.aload_n (pc' := 12) d_F_scan_11 rfl rfl ?_
  refine VW.gP (ci := 10) (T := T10) (N := 11) (k := 10) (k' := 10) (pc' := 15) d_F_scan_12 rfl lk_F_66 in10 rfl rfl rfl rfl (by first | exact hC.k 0 rfl | exact hC.k 2 rfl | exact hC.k 3 rfl | exact hQ.k) (by first | exact hp | exact hC.p 0 rfl | exact hC.p 9 rfl | rfl) ?_
  refine VW.gI (ci := 4) (T := T4) (N := 13) (k := 7) (k' := 7) (pc' := 18) d_F_scan_15 rfl lk_F_228 in4 rfl rfl rfl rfl (by first | exact hC.k 0 rfl | exact hC.k 2 rfl | exact hC.k 3 rfl | exact hQ.k) (by first | exact hp | exact hC.p 0 rfl | exact hC.p 9 rfl | rfl) ?_
  refine VW.bipush (pc' := 20) d_F_scan_18 rfl (by decide) ?_
  refine VW.icmp_ge (tgt := 50) (pc' := 23) d_F_scan_20 rfl rfl (fun c20 => ?_) (fun c20 => ?_)
  · refine VW.iconst (pc' := 51) d_F_scan_50 rfl (by decide) ?_
    refine VW.callSX (pc' := 54) d_F_scan_51 rfl (sp_F_demandState0) rfl ms_F_demandState.1 ms_F_demandState.2.1 rfl ms_F_demandState.2.2 lk_F_82 rfl rfl rfl (by decide) (by decide) (fun _ _ _ _ _ hz => ?_) (fun _ _ _ _ _ hz => by cases hz.1)
    obtain ⟨z1, z2, z3, z4, z5⟩ := hz
    cases z1
    replace z2 := z2.symm; replace z3 := z3.symm; replace z4 := z4.symm; replace z5 := z5.symm
    subst z2; subst z3; subst z4; subst z5
    exact Or.inl ⟨rfl, ex_rf⟩
    -- end
  · refine VW.aload_n (pc' := 24) d_F_scan_23 rfl rfl ?_
    refine VW.gP (ci := 10) (T := T10) (N := 11) (k := 10) (k' := 10) (pc' := 27) d_F_scan_24 rfl lk_F_66 in10 rfl rfl rfl rfl (by first | exact hC.k 0 rfl | exact hC.k 2 rfl | exact hC.k 3 rfl | exact hQ.k) (by first | exact hp | exact hC.p 0 rfl | exact hC.p 9 rfl | rfl) ?_
    refine VW.gI (ci := 4) (T := T4) (N := 13) (k := 0) (k' := 0) (pc' := 30) d_F_scan_27 rfl lk_F_230 in4 rfl rfl rfl rfl (by first | exact hC.k 0 rfl | exact hC.k 2 rfl | exact hC.k 3 rfl | exact hQ.k) (by first | exact hp | exact hC.p 0 rfl | exact hC.p 9 rfl | rfl) ?_
    refine VW.bipush (pc' := 32) d_F_scan_30 rfl (by decide) ?_
    refine VW.icmp_ge (tgt := 50) (pc' := 35) d_F_scan_32 rfl rfl (fun c32 => ?_) (fun c32 => ?_)
    · refine VW.iconst (pc' := 51) d_F_scan_50 rfl (by decide) ?_
      refine VW.callSX (pc' := 54) d_F_scan_51 rfl (sp_F_demandState0) rfl ms_F_demandState.1 ms_F_demandState.2.1 rfl ms_F_demandState.2.2 lk_F_82 rfl rfl rfl (by decide) (by decide) (fun _ _ _ _ _ hz => ?_) (fun _ _ _ _ _ hz => by cases hz.1)
      obtain ⟨z1, z2, z3, z4, z5⟩ := hz
      cases z1
      replace z2 := z2.symm; replace z3 := z3.symm; replace z4 := z4.symm; replace z5 := z5.symm
      subst z2; subst z3; subst z4; subst z5
      exact Or.inl ⟨rfl, ex_rf⟩
      -- end
    · refine VW.aload_n (pc' := 36) d_F_scan_35 rfl rfl ?_
      refine VW.gP (ci := 10) (T := T10) (N := 11) (k := 10) (k' := 10) (pc' := 39) d_F_scan_36 rfl lk_F_66 in10 rfl rfl rfl rfl (by first | exact hC.k 0 rfl | exact hC.k 2 rfl | exact hC.k 3 rfl | exact hQ.k) (by first | exact hp | exact hC.p 0 rfl | exact hC.p 9 rfl | rfl) ?_
      refine VW.gI (ci := 4) (T := T4) (N := 13) (k := 1) (k' := 1) (pc' := 42) d_F_scan_39 rfl lk_F_232 in4 rfl rfl rfl rfl (by first | exact hC.k 0 rfl | exact hC.k 2 rfl | exact hC.k 3 rfl | exact hQ.k) (by first | exact hp | exact hC.p 0 rfl | exact hC.p 9 rfl | rfl) ?_
      refine VW.iconst (pc' := 43) d_F_scan_42 rfl (by decide) ?_
      refine VW.icmp_ge (tgt := 50) (pc' := 46) d_F_scan_43 rfl rfl (fun c43 => ?_) (fun c43 => ?_)
      · refine VW.iconst (pc' := 51) d_F_scan_50 rfl (by decide) ?_
        refine VW.callSX (pc' := 54) d_F_scan_51 rfl (sp_F_demandState0) rfl ms_F_demandState.1 ms_F_demandState.2.1 rfl ms_F_demandState.2.2 lk_F_82 rfl rfl rfl (by decide) (by decide) (fun _ _ _ _ _ hz => ?_) (fun _ _ _ _ _ hz => by cases hz.1)
        obtain ⟨z1, z2, z3, z4, z5⟩ := hz
        cases z1
        replace z2 := z2.symm; replace z3 := z3.symm; replace z4 := z4.symm; replace z5 := z5.symm
        subst z2; subst z3; subst z4; subst z5
        exact Or.inl ⟨rfl, ex_rf⟩
        -- end
      · refine VW.nrm ?_
        exact absurd ⟨by omega, by omega, by omega⟩ h
theorem scan_run (hC : ClW K P) (hp : P 1000 10 = some q) (hQ : QuW K P q) (ht : 0 ≤ t ∧ t < I 1032 0) (h6 : I 1032 0 ≤ 6) (h7 : 0 ≤ I q 7 ∧ I q 7 < 6) (h0 : 0 ≤ I q 0 ∧ I q 0 < 12) (h1 : 0 ≤ I q 1 ∧ I q 1 < 3) : Sp m_F_scan true ({ frames := 12, cells := 0, slots := 0, locals := 400 } : Room) (ex K P J (quScan I q t (I 1034 t)) (.inl (some (vI (quScan I q t (I 1034 t) q 7))))) K P J I [vR (some 1000), vI t] := by
  refine Sp.ofV (by decide) (Or.inl rfl) rfl ?_
  refine VW.aload_n (pc' := 1) d_F_scan_0 rfl rfl ?_
  refine VW.gP (ci := 10) (T := T10) (N := 11) (k := 0) (k' := 0) (pc' := 4) d_F_scan_1 rfl lk_F_12 in10 rfl rfl rfl rfl (by first | exact hC.k 0 rfl | exact hC.k 2 rfl | exact hC.k 3 rfl | exact hQ.k) (by first | exact hp | exact hC.p 0 rfl | exact hC.p 9 rfl | rfl) ?_
  refine VW.iload_n (pc' := 5) d_F_scan_4 rfl rfl ?_
  refine VW.cV (ci := 7) (T := T7) (N := 8) (pc' := 8) d_F_scan_5 rfl mv_Schema_hasTable lk_F_123 rfl (by first | exact hC.k 0 rfl | exact hC.k 2 rfl | exact hC.k 3 rfl | exact hQ.k) rfl rfl rfl (by decide) (by decide) (F_hasTab1 hC ht) rfl rfl ?_
  refine VW.callSX (pc' := 11) d_F_scan_8 rfl (sp_F_demandPlace1 (by decide)) rfl ms_F_demandPlace.1 ms_F_demandPlace.2.1 rfl ms_F_demandPlace.2.2 lk_F_97 rfl rfl rfl (by decide) (by decide) (fun _ _ _ _ _ hz => by cases hz.1) (fun r _ _ _ _ hz => ?_)
  obtain ⟨z1, z2, z3, z4, z5⟩ := hz
  cases z1
  replace z2 := z2.symm; replace z3 := z3.symm; replace z4 := z4.symm; replace z5 := z5.symm
  subst z2; subst z3; subst z4; subst z5
  refine VW.aload_n (pc' := 12) d_F_scan_11 rfl rfl ?_
  refine VW.gP (ci := 10) (T := T10) (N := 11) (k := 10) (k' := 10) (pc' := 15) d_F_scan_12 rfl lk_F_66 in10 rfl rfl rfl rfl (by first | exact hC.k 0 rfl | exact hC.k 2 rfl | exact hC.k 3 rfl | exact hQ.k) (by first | exact hp | exact hC.p 0 rfl | exact hC.p 9 rfl | rfl) ?_
  refine VW.gI (ci := 4) (T := T4) (N := 13) (k := 7) (k' := 7) (pc' := 18) d_F_scan_15 rfl lk_F_228 in4 rfl rfl rfl rfl (by first | exact hC.k 0 rfl | exact hC.k 2 rfl | exact hC.k 3 rfl | exact hQ.k) (by first | exact hp | exact hC.p 0 rfl | exact hC.p 9 rfl | rfl) ?_
  refine VW.bipush (pc' := 20) d_F_scan_18 rfl (by decide) ?_
  refine VW.icmp_ge (tgt := 50) (pc' := 23) d_F_scan_20 rfl rfl (fun c20 => ?_) (fun c20 => ?_)
  case refine_1 => exact absurd c20 (by omega)
  refine VW.aload_n (pc' := 24) d_F_scan_23 rfl rfl ?_
  refine VW.gP (ci := 10) (T := T10) (N := 11) (k := 10) (k' := 10) (pc' := 27) d_F_scan_24 rfl lk_F_66 in10 rfl rfl rfl rfl (by first | exact hC.k 0 rfl | exact hC.k 2 rfl | exact hC.k 3 rfl | exact hQ.k) (by first | exact hp | exact hC.p 0 rfl | exact hC.p 9 rfl | rfl) ?_
  refine VW.gI (ci := 4) (T := T4) (N := 13) (k := 0) (k' := 0) (pc' := 30) d_F_scan_27 rfl lk_F_230 in4 rfl rfl rfl rfl (by first | exact hC.k 0 rfl | exact hC.k 2 rfl | exact hC.k 3 rfl | exact hQ.k) (by first | exact hp | exact hC.p 0 rfl | exact hC.p 9 rfl | rfl) ?_
  refine VW.bipush (pc' := 32) d_F_scan_30 rfl (by decide) ?_
  refine VW.icmp_ge (tgt := 50) (pc' := 35) d_F_scan_32 rfl rfl (fun c32 => ?_) (fun c32 => ?_)
  case refine_1 => exact absurd c32 (by omega)
  refine VW.aload_n (pc' := 36) d_F_scan_35 rfl rfl ?_
  refine VW.gP (ci := 10) (T := T10) (N := 11) (k := 10) (k' := 10) (pc' := 39) d_F_scan_36 rfl lk_F_66 in10 rfl rfl rfl rfl (by first | exact hC.k 0 rfl | exact hC.k 2 rfl | exact hC.k 3 rfl | exact hQ.k) (by first | exact hp | exact hC.p 0 rfl | exact hC.p 9 rfl | rfl) ?_
  refine VW.gI (ci := 4) (T := T4) (N := 13) (k := 1) (k' := 1) (pc' := 42) d_F_scan_39 rfl lk_F_232 in4 rfl rfl rfl rfl (by first | exact hC.k 0 rfl | exact hC.k 2 rfl | exact hC.k 3 rfl | exact hQ.k) (by first | exact hp | exact hC.p 0 rfl | exact hC.p 9 rfl | rfl) ?_
  refine VW.iconst (pc' := 43) d_F_scan_42 rfl (by decide) ?_
  refine VW.icmp_ge (tgt := 50) (pc' := 46) d_F_scan_43 rfl rfl (fun c43 => ?_) (fun c43 => ?_)
  case refine_1 => exact absurd c43 (by omega)
  refine VW.iconst (pc' := 47) d_F_scan_46 rfl (by decide) ?_
  refine VW.goto (pc' := 51) d_F_scan_47 rfl ?_
  refine VW.callSX (pc' := 54) d_F_scan_51 rfl (sp_F_demandState1 (by decide)) rfl ms_F_demandState.1 ms_F_demandState.2.1 rfl ms_F_demandState.2.2 lk_F_82 rfl rfl rfl (by decide) (by decide) (fun _ _ _ _ _ hz => by cases hz.1) (fun r _ _ _ _ hz => ?_)
  obtain ⟨z1, z2, z3, z4, z5⟩ := hz
  cases z1
  replace z2 := z2.symm; replace z3 := z3.symm; replace z4 := z4.symm; replace z5 := z5.symm
  subst z2; subst z3; subst z4; subst z5
  refine VW.aload_n (pc' := 55) d_F_scan_54 rfl rfl ?_
  refine VW.gP (ci := 10) (T := T10) (N := 11) (k := 10) (k' := 10) (pc' := 58) d_F_scan_55 rfl lk_F_66 in10 rfl rfl rfl rfl (by first | exact hC.k 0 rfl | exact hC.k 2 rfl | exact hC.k 3 rfl | exact hQ.k) (by first | exact hp | exact hC.p 0 rfl | exact hC.p 9 rfl | rfl) ?_
  refine VW.iload_n (pc' := 59) d_F_scan_58 rfl rfl ?_
  refine VW.aload_n (pc' := 60) d_F_scan_59 rfl rfl ?_
  refine VW.gP (ci := 10) (T := T10) (N := 11) (k := 0) (k' := 0) (pc' := 63) d_F_scan_60 rfl lk_F_12 in10 rfl rfl rfl rfl (by first | exact hC.k 0 rfl | exact hC.k 2 rfl | exact hC.k 3 rfl | exact hQ.k) (by first | exact hp | exact hC.p 0 rfl | exact hC.p 9 rfl | rfl) ?_
  refine VW.gP (ci := 7) (T := T7) (N := 8) (k := 1) (k' := 1) (pc' := 66) d_F_scan_63 rfl lk_F_164 in7 rfl rfl rfl rfl (by first | exact hC.k 0 rfl | exact hC.k 2 rfl | exact hC.k 3 rfl | exact hQ.k) (by first | exact hp | exact hC.p 0 rfl | exact hC.p 9 rfl | rfl) ?_
  refine VW.iload_n (pc' := 67) d_F_scan_66 rfl rfl ?_
  refine VW.ild (pc' := 68) d_F_scan_67 rfl (by first | exact hC.k 0 rfl | exact hC.k 2 rfl | exact hC.k 3 rfl | exact hQ.k) (by omega) (by omega) (by first | exact hp | exact hC.p 0 rfl | exact hC.p 9 rfl | rfl) ?_
  refine VW.cV (ci := 4) (T := T4) (N := 13) (pc' := 71) d_F_scan_68 rfl mv_Query_putScan lk_F_235 rfl (by first | exact hC.k 0 rfl | exact hC.k 2 rfl | exact hC.k 3 rfl | exact hQ.k) rfl rfl rfl (by decide) (by decide) (sp_Query_putScan hQ h0 h7 (by omega)) rfl rfl ?_
  refine VW.aload_n (pc' := 72) d_F_scan_71 rfl rfl ?_
  refine VW.gP (ci := 10) (T := T10) (N := 11) (k := 10) (k' := 10) (pc' := 75) d_F_scan_72 rfl lk_F_66 in10 rfl rfl rfl rfl (by first | exact hC.k 0 rfl | exact hC.k 2 rfl | exact hC.k 3 rfl | exact hQ.k) (by first | exact hp | exact hC.p 0 rfl | exact hC.p 9 rfl | rfl) ?_
  refine VW.gI (ci := 4) (T := T4) (N := 13) (k := 7) (k' := 7) (pc' := 78) d_F_scan_75 rfl lk_F_228 in4 rfl rfl rfl rfl (by first | exact hC.k 0 rfl | exact hC.k 2 rfl | exact hC.k 3 rfl | exact hQ.k) (by first | exact hp | exact hC.p 0 rfl | exact hC.p 9 rfl | rfl) ?_
  exact VW.iret d_F_scan_78 rfl rfl (by decide) (by decide) ex_rf
theorem filter_no1 (hC : ClW K P) (hp : P 1000 10 = some q) (hQ : QuW K P q) (h : ¬ (1 ≤ I q 7 ∧ I q 0 < 12)) : Sp m_F_filter true ({ frames := 12, cells := 1, slots := 6, locals := 400 } : Room) (ex K P J I (.inr eISE)) K P J I [vR (some 1000), vI c, vI w, vI v, vI nt] := by
  refine Sp.ofV (by decide) (Or.inl rfl) rfl ?_
  refine VW.aload_n (pc' := 1) d_F_filter_0 rfl rfl ?_
  refine VW.gP (ci := 10) (T := T10) (N := 11) (k := 10) (k' := 10) (pc' := 4) d_F_filter_1 rfl lk_F_66 in10 rfl rfl rfl rfl (by first | exact hC.k 0 rfl | exact hC.k 2 rfl | exact hC.k 3 rfl | exact hQ.k) (by first | exact hp | exact hC.p 0 rfl | exact hC.p 9 rfl | rfl) ?_
  refine VW.iconst (pc' := 5) d_F_filter_4 rfl (by decide) ?_
  refine VW.cV (ci := 4) (T := T4) (N := 13) (pc' := 8) d_F_filter_5 rfl mv_Query_takesOperator lk_F_238 rfl (by first | exact hC.k 0 rfl | exact hC.k 2 rfl | exact hC.k 3 rfl | exact hQ.k) rfl rfl rfl (by decide) (by decide) (tkN hQ h) rfl rfl ?_
  refine VW.callSX (pc' := 11) d_F_filter_8 rfl (sp_F_demandState0) rfl ms_F_demandState.1 ms_F_demandState.2.1 rfl ms_F_demandState.2.2 lk_F_82 rfl rfl rfl (by decide) (by decide) (fun _ _ _ _ _ hz => ?_) (fun _ _ _ _ _ hz => by cases hz.1)
  obtain ⟨z1, z2, z3, z4, z5⟩ := hz
  cases z1
  replace z2 := z2.symm; replace z3 := z3.symm; replace z4 := z4.symm; replace z5 := z5.symm
  subst z2; subst z3; subst z4; subst z5
  exact Or.inl ⟨rfl, ex_rf⟩
  -- end
theorem filterColumns_no1 (hC : ClW K P) (hp : P 1000 10 = some q) (hQ : QuW K P q) (h : ¬ (1 ≤ I q 7 ∧ I q 0 < 12)) : Sp m_F_filterColumns true ({ frames := 12, cells := 1, slots := 6, locals := 400 } : Room) (ex K P J I (.inr eISE)) K P J I [vR (some 1000), vI c, vI w, vI o, vI nt] := by
  refine Sp.ofV (by decide) (Or.inl rfl) rfl ?_
  refine VW.aload_n (pc' := 1) d_F_filterColumns_0 rfl rfl ?_
  refine VW.gP (ci := 10) (T := T10) (N := 11) (k := 10) (k' := 10) (pc' := 4) d_F_filterColumns_1 rfl lk_F_66 in10 rfl rfl rfl rfl (by first | exact hC.k 0 rfl | exact hC.k 2 rfl | exact hC.k 3 rfl | exact hQ.k) (by first | exact hp | exact hC.p 0 rfl | exact hC.p 9 rfl | rfl) ?_
  refine VW.iconst (pc' := 5) d_F_filterColumns_4 rfl (by decide) ?_
  refine VW.cV (ci := 4) (T := T4) (N := 13) (pc' := 8) d_F_filterColumns_5 rfl mv_Query_takesOperator lk_F_238 rfl (by first | exact hC.k 0 rfl | exact hC.k 2 rfl | exact hC.k 3 rfl | exact hQ.k) rfl rfl rfl (by decide) (by decide) (tkN hQ h) rfl rfl ?_
  refine VW.callSX (pc' := 11) d_F_filterColumns_8 rfl (sp_F_demandState0) rfl ms_F_demandState.1 ms_F_demandState.2.1 rfl ms_F_demandState.2.2 lk_F_82 rfl rfl rfl (by decide) (by decide) (fun _ _ _ _ _ hz => ?_) (fun _ _ _ _ _ hz => by cases hz.1)
  obtain ⟨z1, z2, z3, z4, z5⟩ := hz
  cases z1
  replace z2 := z2.symm; replace z3 := z3.symm; replace z4 := z4.symm; replace z5 := z5.symm
  subst z2; subst z3; subst z4; subst z5
  exact Or.inl ⟨rfl, ex_rf⟩
  -- end
theorem ratio_no1 (hC : ClW K P) (hp : P 1000 10 = some q) (hQ : QuW K P q) (h : ¬ (1 ≤ I q 7 ∧ I q 0 < 12)) : Sp m_F_ratio true ({ frames := 12, cells := 1, slots := 6, locals := 400 } : Room) (ex K P J I (.inr eISE)) K P J I [vR (some 1000), vI c, vI o, vI v] := by
  refine Sp.ofV (by decide) (Or.inl rfl) rfl ?_
  refine VW.aload_n (pc' := 1) d_F_ratio_0 rfl rfl ?_
  refine VW.gP (ci := 10) (T := T10) (N := 11) (k := 10) (k' := 10) (pc' := 4) d_F_ratio_1 rfl lk_F_66 in10 rfl rfl rfl rfl (by first | exact hC.k 0 rfl | exact hC.k 2 rfl | exact hC.k 3 rfl | exact hQ.k) (by first | exact hp | exact hC.p 0 rfl | exact hC.p 9 rfl | rfl) ?_
  refine VW.iconst (pc' := 5) d_F_ratio_4 rfl (by decide) ?_
  refine VW.cV (ci := 4) (T := T4) (N := 13) (pc' := 8) d_F_ratio_5 rfl mv_Query_takesOperator lk_F_238 rfl (by first | exact hC.k 0 rfl | exact hC.k 2 rfl | exact hC.k 3 rfl | exact hQ.k) rfl rfl rfl (by decide) (by decide) (tkN hQ h) rfl rfl ?_
  refine VW.callSX (pc' := 11) d_F_ratio_8 rfl (sp_F_demandState0) rfl ms_F_demandState.1 ms_F_demandState.2.1 rfl ms_F_demandState.2.2 lk_F_82 rfl rfl rfl (by decide) (by decide) (fun _ _ _ _ _ hz => ?_) (fun _ _ _ _ _ hz => by cases hz.1)
  obtain ⟨z1, z2, z3, z4, z5⟩ := hz
  cases z1
  replace z2 := z2.symm; replace z3 := z3.symm; replace z4 := z4.symm; replace z5 := z5.symm
  subst z2; subst z3; subst z4; subst z5
  exact Or.inl ⟨rfl, ex_rf⟩
  -- end
theorem group_no1 (hC : ClW K P) (hp : P 1000 10 = some q) (hQ : QuW K P q) (h : ¬ (1 ≤ I q 7 ∧ I q 0 < 12)) : Sp m_F_group true ({ frames := 12, cells := 1, slots := 6, locals := 400 } : Room) (ex K P J I (.inr eISE)) K P J I [vR (some 1000), vI c, vI w, vI o] := by
  refine Sp.ofV (by decide) (Or.inl rfl) rfl ?_
  refine VW.aload_n (pc' := 1) d_F_group_0 rfl rfl ?_
  refine VW.gP (ci := 10) (T := T10) (N := 11) (k := 10) (k' := 10) (pc' := 4) d_F_group_1 rfl lk_F_66 in10 rfl rfl rfl rfl (by first | exact hC.k 0 rfl | exact hC.k 2 rfl | exact hC.k 3 rfl | exact hQ.k) (by first | exact hp | exact hC.p 0 rfl | exact hC.p 9 rfl | rfl) ?_
  refine VW.iconst (pc' := 5) d_F_group_4 rfl (by decide) ?_
  refine VW.cV (ci := 4) (T := T4) (N := 13) (pc' := 8) d_F_group_5 rfl mv_Query_takesOperator lk_F_238 rfl (by first | exact hC.k 0 rfl | exact hC.k 2 rfl | exact hC.k 3 rfl | exact hQ.k) rfl rfl rfl (by decide) (by decide) (tkN hQ h) rfl rfl ?_
  refine VW.callSX (pc' := 11) d_F_group_8 rfl (sp_F_demandState0) rfl ms_F_demandState.1 ms_F_demandState.2.1 rfl ms_F_demandState.2.2 lk_F_82 rfl rfl rfl (by decide) (by decide) (fun _ _ _ _ _ hz => ?_) (fun _ _ _ _ _ hz => by cases hz.1)
  obtain ⟨z1, z2, z3, z4, z5⟩ := hz
  cases z1
  replace z2 := z2.symm; replace z3 := z3.symm; replace z4 := z4.symm; replace z5 := z5.symm
  subst z2; subst z3; subst z4; subst z5
  exact Or.inl ⟨rfl, ex_rf⟩
  -- end
theorem keep_no1 (hC : ClW K P) (hp : P 1000 10 = some q) (hQ : QuW K P q) (h : ¬ (1 ≤ I q 7 ∧ I q 0 < 12)) : Sp m_F_keep true ({ frames := 12, cells := 1, slots := 6, locals := 400 } : Room) (ex K P J I (.inr eISE)) K P J I [vR (some 1000), vI c] := by
  refine Sp.ofV (by decide) (Or.inl rfl) rfl ?_
  refine VW.aload_n (pc' := 1) d_F_keep_0 rfl rfl ?_
  refine VW.gP (ci := 10) (T := T10) (N := 11) (k := 10) (k' := 10) (pc' := 4) d_F_keep_1 rfl lk_F_66 in10 rfl rfl rfl rfl (by first | exact hC.k 0 rfl | exact hC.k 2 rfl | exact hC.k 3 rfl | exact hQ.k) (by first | exact hp | exact hC.p 0 rfl | exact hC.p 9 rfl | rfl) ?_
  refine VW.iconst (pc' := 5) d_F_keep_4 rfl (by decide) ?_
  refine VW.cV (ci := 4) (T := T4) (N := 13) (pc' := 8) d_F_keep_5 rfl mv_Query_takesOperator lk_F_238 rfl (by first | exact hC.k 0 rfl | exact hC.k 2 rfl | exact hC.k 3 rfl | exact hQ.k) rfl rfl rfl (by decide) (by decide) (tkN hQ h) rfl rfl ?_
  refine VW.callSX (pc' := 11) d_F_keep_8 rfl (sp_F_demandState0) rfl ms_F_demandState.1 ms_F_demandState.2.1 rfl ms_F_demandState.2.2 lk_F_82 rfl rfl rfl (by decide) (by decide) (fun _ _ _ _ _ hz => ?_) (fun _ _ _ _ _ hz => by cases hz.1)
  obtain ⟨z1, z2, z3, z4, z5⟩ := hz
  cases z1
  replace z2 := z2.symm; replace z3 := z3.symm; replace z4 := z4.symm; replace z5 := z5.symm
  subst z2; subst z3; subst z4; subst z5
  exact Or.inl ⟨rfl, ex_rf⟩
  -- end
theorem filter_no2 (hC : ClW K P) (hp : P 1000 10 = some q) (hQ : QuW K P q) (hB : QuB I q) (ht : 1 ≤ I q 7 ∧ I q 0 < 12) (h : ¬ (0 ≤ c ∧ c < quLast I q)) : Sp m_F_filter true ({ frames := 12, cells := 1, slots := 6, locals := 400 } : Room) (ex K P J I (.inr eIOO)) K P J I [vR (some 1000), vI c, vI w, vI v, vI nt] := by
  refine Sp.ofV (by decide) (Or.inl rfl) rfl ?_
  refine VW.aload_n (pc' := 1) d_F_filter_0 rfl rfl ?_
  refine VW.gP (ci := 10) (T := T10) (N := 11) (k := 10) (k' := 10) (pc' := 4) d_F_filter_1 rfl lk_F_66 in10 rfl rfl rfl rfl (by first | exact hC.k 0 rfl | exact hC.k 2 rfl | exact hC.k 3 rfl | exact hQ.k) (by first | exact hp | exact hC.p 0 rfl | exact hC.p 9 rfl | rfl) ?_
  refine VW.iconst (pc' := 5) d_F_filter_4 rfl (by decide) ?_
  refine VW.cV (ci := 4) (T := T4) (N := 13) (pc' := 8) d_F_filter_5 rfl mv_Query_takesOperator lk_F_238 rfl (by first | exact hC.k 0 rfl | exact hC.k 2 rfl | exact hC.k 3 rfl | exact hQ.k) rfl rfl rfl (by decide) (by decide) (tkY hQ ht) rfl rfl ?_
  refine VW.callSX (pc' := 11) d_F_filter_8 rfl (sp_F_demandState1 (by decide)) rfl ms_F_demandState.1 ms_F_demandState.2.1 rfl ms_F_demandState.2.2 lk_F_82 rfl rfl rfl (by decide) (by decide) (fun _ _ _ _ _ hz => by cases hz.1) (fun r _ _ _ _ hz => ?_)
  obtain ⟨z1, z2, z3, z4, z5⟩ := hz
  cases z1
  replace z2 := z2.symm; replace z3 := z3.symm; replace z4 := z4.symm; replace z5 := z5.symm
  subst z2; subst z3; subst z4; subst z5
  refine VW.iload_n (pc' := 12) d_F_filter_11 rfl rfl ?_
  refine VW.if_lt (tgt := 30) (pc' := 15) d_F_filter_12 rfl rfl (fun c12 => ?_) (fun c12 => ?_)
  · refine VW.iconst (pc' := 31) d_F_filter_30 rfl (by decide) ?_
    refine VW.callSX (pc' := 34) d_F_filter_31 rfl (sp_F_demandPlace0) rfl ms_F_demandPlace.1 ms_F_demandPlace.2.1 rfl ms_F_demandPlace.2.2 lk_F_97 rfl rfl rfl (by decide) (by decide) (fun _ _ _ _ _ hz => ?_) (fun _ _ _ _ _ hz => by cases hz.1)
    obtain ⟨z1, z2, z3, z4, z5⟩ := hz
    cases z1
    replace z2 := z2.symm; replace z3 := z3.symm; replace z4 := z4.symm; replace z5 := z5.symm
    subst z2; subst z3; subst z4; subst z5
    exact Or.inl ⟨rfl, ex_rf⟩
    -- end
  · refine VW.iload_n (pc' := 16) d_F_filter_15 rfl rfl ?_
    refine VW.aload_n (pc' := 17) d_F_filter_16 rfl rfl ?_
    refine VW.gP (ci := 10) (T := T10) (N := 11) (k := 10) (k' := 10) (pc' := 20) d_F_filter_17 rfl lk_F_66 in10 rfl rfl rfl rfl (by first | exact hC.k 0 rfl | exact hC.k 2 rfl | exact hC.k 3 rfl | exact hQ.k) (by first | exact hp | exact hC.p 0 rfl | exact hC.p 9 rfl | rfl) ?_
    refine VW.cV (ci := 4) (T := T4) (N := 13) (pc' := 23) d_F_filter_20 rfl mv_Query_lastWidth lk_F_241 rfl (by first | exact hC.k 0 rfl | exact hC.k 2 rfl | exact hC.k 3 rfl | exact hQ.k) rfl rfl rfl (by decide) (by decide) (sp_Query_lastWidth hQ hB) rfl rfl ?_
    refine VW.icmp_ge (tgt := 30) (pc' := 26) d_F_filter_23 rfl rfl (fun c23 => ?_) (fun c23 => ?_)
    · refine VW.iconst (pc' := 31) d_F_filter_30 rfl (by decide) ?_
      refine VW.callSX (pc' := 34) d_F_filter_31 rfl (sp_F_demandPlace0) rfl ms_F_demandPlace.1 ms_F_demandPlace.2.1 rfl ms_F_demandPlace.2.2 lk_F_97 rfl rfl rfl (by decide) (by decide) (fun _ _ _ _ _ hz => ?_) (fun _ _ _ _ _ hz => by cases hz.1)
      obtain ⟨z1, z2, z3, z4, z5⟩ := hz
      cases z1
      replace z2 := z2.symm; replace z3 := z3.symm; replace z4 := z4.symm; replace z5 := z5.symm
      subst z2; subst z3; subst z4; subst z5
      exact Or.inl ⟨rfl, ex_rf⟩
      -- end
    · refine VW.nrm ?_
      exact absurd ⟨by omega, by omega⟩ h
theorem filter_no3 (hC : ClW K P) (hp : P 1000 10 = some q) (hQ : QuW K P q) (hB : QuB I q) (ht : 1 ≤ I q 7 ∧ I q 0 < 12) (hc : 0 ≤ c ∧ c < quLast I q) (h : ¬ ((0 ≤ w ∧ w ≤ 2) ∧ okV v)) : Sp m_F_filter true ({ frames := 12, cells := 1, slots := 6, locals := 400 } : Room) (ex K P J I (.inr eIAE)) K P J I [vR (some 1000), vI c, vI w, vI v, vI nt] := by
  refine Sp.ofV (by decide) (Or.inl rfl) rfl ?_
  refine VW.aload_n (pc' := 1) d_F_filter_0 rfl rfl ?_
  refine VW.gP (ci := 10) (T := T10) (N := 11) (k := 10) (k' := 10) (pc' := 4) d_F_filter_1 rfl lk_F_66 in10 rfl rfl rfl rfl (by first | exact hC.k 0 rfl | exact hC.k 2 rfl | exact hC.k 3 rfl | exact hQ.k) (by first | exact hp | exact hC.p 0 rfl | exact hC.p 9 rfl | rfl) ?_
  refine VW.iconst (pc' := 5) d_F_filter_4 rfl (by decide) ?_
  refine VW.cV (ci := 4) (T := T4) (N := 13) (pc' := 8) d_F_filter_5 rfl mv_Query_takesOperator lk_F_238 rfl (by first | exact hC.k 0 rfl | exact hC.k 2 rfl | exact hC.k 3 rfl | exact hQ.k) rfl rfl rfl (by decide) (by decide) (tkY hQ ht) rfl rfl ?_
  refine VW.callSX (pc' := 11) d_F_filter_8 rfl (sp_F_demandState1 (by decide)) rfl ms_F_demandState.1 ms_F_demandState.2.1 rfl ms_F_demandState.2.2 lk_F_82 rfl rfl rfl (by decide) (by decide) (fun _ _ _ _ _ hz => by cases hz.1) (fun r _ _ _ _ hz => ?_)
  obtain ⟨z1, z2, z3, z4, z5⟩ := hz
  cases z1
  replace z2 := z2.symm; replace z3 := z3.symm; replace z4 := z4.symm; replace z5 := z5.symm
  subst z2; subst z3; subst z4; subst z5
  refine VW.iload_n (pc' := 12) d_F_filter_11 rfl rfl ?_
  refine VW.if_lt (tgt := 30) (pc' := 15) d_F_filter_12 rfl rfl (fun c12 => ?_) (fun c12 => ?_)
  case refine_1 => exact absurd c12 (by omega)
  refine VW.iload_n (pc' := 16) d_F_filter_15 rfl rfl ?_
  refine VW.aload_n (pc' := 17) d_F_filter_16 rfl rfl ?_
  refine VW.gP (ci := 10) (T := T10) (N := 11) (k := 10) (k' := 10) (pc' := 20) d_F_filter_17 rfl lk_F_66 in10 rfl rfl rfl rfl (by first | exact hC.k 0 rfl | exact hC.k 2 rfl | exact hC.k 3 rfl | exact hQ.k) (by first | exact hp | exact hC.p 0 rfl | exact hC.p 9 rfl | rfl) ?_
  refine VW.cV (ci := 4) (T := T4) (N := 13) (pc' := 23) d_F_filter_20 rfl mv_Query_lastWidth lk_F_241 rfl (by first | exact hC.k 0 rfl | exact hC.k 2 rfl | exact hC.k 3 rfl | exact hQ.k) rfl rfl rfl (by decide) (by decide) (sp_Query_lastWidth hQ hB) rfl rfl ?_
  refine VW.icmp_ge (tgt := 30) (pc' := 26) d_F_filter_23 rfl rfl (fun c23 => ?_) (fun c23 => ?_)
  case refine_1 => exact absurd c23 (by omega)
  refine VW.iconst (pc' := 27) d_F_filter_26 rfl (by decide) ?_
  refine VW.goto (pc' := 31) d_F_filter_27 rfl ?_
  refine VW.callSX (pc' := 34) d_F_filter_31 rfl (sp_F_demandPlace1 (by decide)) rfl ms_F_demandPlace.1 ms_F_demandPlace.2.1 rfl ms_F_demandPlace.2.2 lk_F_97 rfl rfl rfl (by decide) (by decide) (fun _ _ _ _ _ hz => by cases hz.1) (fun r _ _ _ _ hz => ?_)
  obtain ⟨z1, z2, z3, z4, z5⟩ := hz
  cases z1
  replace z2 := z2.symm; replace z3 := z3.symm; replace z4 := z4.symm; replace z5 := z5.symm
  subst z2; subst z3; subst z4; subst z5
  refine VW.iload_n (pc' := 35) d_F_filter_34 rfl rfl ?_
  refine VW.cS (pc' := 38) d_F_filter_35 rfl ms_F_isComparison lk_F_100 rfl rfl rfl (by decide) (by decide) (sp_F_isComparison) rfl rfl ?_
  refine VW.if_eq (tgt := 58) (pc' := 41) d_F_filter_38 rfl rfl (fun c38 => ?_) (fun c38 => ?_)
  · try have e38 := bIe c38
    refine VW.iconst (pc' := 59) d_F_filter_58 rfl (by decide) ?_
    refine VW.callSX (pc' := 62) d_F_filter_59 rfl (sp_F_demandRange0) rfl ms_F_demandRange.1 ms_F_demandRange.2.1 rfl ms_F_demandRange.2.2 lk_F_70 rfl rfl rfl (by decide) (by decide) (fun _ _ _ _ _ hz => ?_) (fun _ _ _ _ _ hz => by cases hz.1)
    obtain ⟨z1, z2, z3, z4, z5⟩ := hz
    cases z1
    replace z2 := z2.symm; replace z3 := z3.symm; replace z4 := z4.symm; replace z5 := z5.symm
    subst z2; subst z3; subst z4; subst z5
    exact Or.inl ⟨rfl, ex_rf⟩
    -- end
  · try have e38 := bIn c38
    refine VW.iload_n (pc' := 42) d_F_filter_41 rfl rfl ?_
    refine VW.cS (pc' := 45) d_F_filter_42 rfl ms_F_isNumber lk_F_104 rfl rfl rfl (by decide) (by decide) (sp_F_isNumber) rfl rfl ?_
    refine VW.if_ne (tgt := 54) (pc' := 48) d_F_filter_45 rfl rfl (fun c45 => ?_) (fun c45 => ?_)
    · try have e45 := bIn c45
      refine VW.nrm ?_
      exact (h ⟨e38, by first | exact Or.inr e45 | exact Or.inl c51⟩).elim
    · try have e45 := bIe c45
      refine VW.iload_n (pc' := 49) d_F_filter_48 rfl rfl ?_
      refine VW.ldc (pc' := 51) (z := -2147483648) d_F_filter_49 rfl lk_F_153 (by decide) (by decide) ?_
      refine VW.icmp_ne (tgt := 58) (pc' := 54) d_F_filter_51 rfl rfl (fun c51 => ?_) (fun c51 => ?_)
      · refine VW.iconst (pc' := 59) d_F_filter_58 rfl (by decide) ?_
        refine VW.callSX (pc' := 62) d_F_filter_59 rfl (sp_F_demandRange0) rfl ms_F_demandRange.1 ms_F_demandRange.2.1 rfl ms_F_demandRange.2.2 lk_F_70 rfl rfl rfl (by decide) (by decide) (fun _ _ _ _ _ hz => ?_) (fun _ _ _ _ _ hz => by cases hz.1)
        obtain ⟨z1, z2, z3, z4, z5⟩ := hz
        cases z1
        replace z2 := z2.symm; replace z3 := z3.symm; replace z4 := z4.symm; replace z5 := z5.symm
        subst z2; subst z3; subst z4; subst z5
        exact Or.inl ⟨rfl, ex_rf⟩
        -- end
      · refine VW.nrm ?_
        exact (h ⟨e38, by first | exact Or.inr e45 | exact Or.inl c51⟩).elim
theorem filter_runN (hC : ClW K P) (hp : P 1000 10 = some q) (hQ : QuW K P q) (hB : QuB I q) (ht : 1 ≤ I q 7 ∧ I q 0 < 12) (hc : 0 ≤ c ∧ c < quLast I q) (h0 : 0 ≤ I q 0) (h7 : I q 7 ≤ 6) (hw : 0 ≤ w ∧ w ≤ 2) (hv : -1000 ≤ v ∧ v ≤ 1000) (hz : nt = 0 ∨ nt = 1) : Sp m_F_filter true ({ frames := 12, cells := 0, slots := 0, locals := 400 } : Room) (ex K P J (quOne I q 1 (quLast I q) c w v nt) (.inl (some (vI (quOne I q 1 (quLast I q) c w v nt q 7))))) K P J I [vR (some 1000), vI c, vI w, vI v, vI nt] := by
  rcases hz with rfl | rfl
  all_goals refine Sp.ofV (by decide) (Or.inl rfl) rfl ?_
  · refine VW.aload_n (pc' := 1) d_F_filter_0 rfl rfl ?_
    refine VW.gP (ci := 10) (T := T10) (N := 11) (k := 10) (k' := 10) (pc' := 4) d_F_filter_1 rfl lk_F_66 in10 rfl rfl rfl rfl (by first | exact hC.k 0 rfl | exact hC.k 2 rfl | exact hC.k 3 rfl | exact hQ.k) (by first | exact hp | exact hC.p 0 rfl | exact hC.p 9 rfl | rfl) ?_
    refine VW.iconst (pc' := 5) d_F_filter_4 rfl (by decide) ?_
    refine VW.cV (ci := 4) (T := T4) (N := 13) (pc' := 8) d_F_filter_5 rfl mv_Query_takesOperator lk_F_238 rfl (by first | exact hC.k 0 rfl | exact hC.k 2 rfl | exact hC.k 3 rfl | exact hQ.k) rfl rfl rfl (by decide) (by decide) (tkY hQ ht) rfl rfl ?_
    refine VW.callSX (pc' := 11) d_F_filter_8 rfl (sp_F_demandState1 (by decide)) rfl ms_F_demandState.1 ms_F_demandState.2.1 rfl ms_F_demandState.2.2 lk_F_82 rfl rfl rfl (by decide) (by decide) (fun _ _ _ _ _ hz => by cases hz.1) (fun r _ _ _ _ hz => ?_)
    obtain ⟨z1, z2, z3, z4, z5⟩ := hz
    cases z1
    replace z2 := z2.symm; replace z3 := z3.symm; replace z4 := z4.symm; replace z5 := z5.symm
    subst z2; subst z3; subst z4; subst z5
    refine VW.iload_n (pc' := 12) d_F_filter_11 rfl rfl ?_
    refine VW.if_lt (tgt := 30) (pc' := 15) d_F_filter_12 rfl rfl (fun c12 => ?_) (fun c12 => ?_)
    case refine_1 => exact absurd c12 (by omega)
    refine VW.iload_n (pc' := 16) d_F_filter_15 rfl rfl ?_
    refine VW.aload_n (pc' := 17) d_F_filter_16 rfl rfl ?_
    refine VW.gP (ci := 10) (T := T10) (N := 11) (k := 10) (k' := 10) (pc' := 20) d_F_filter_17 rfl lk_F_66 in10 rfl rfl rfl rfl (by first | exact hC.k 0 rfl | exact hC.k 2 rfl | exact hC.k 3 rfl | exact hQ.k) (by first | exact hp | exact hC.p 0 rfl | exact hC.p 9 rfl | rfl) ?_
    refine VW.cV (ci := 4) (T := T4) (N := 13) (pc' := 23) d_F_filter_20 rfl mv_Query_lastWidth lk_F_241 rfl (by first | exact hC.k 0 rfl | exact hC.k 2 rfl | exact hC.k 3 rfl | exact hQ.k) rfl rfl rfl (by decide) (by decide) (sp_Query_lastWidth hQ hB) rfl rfl ?_
    refine VW.icmp_ge (tgt := 30) (pc' := 26) d_F_filter_23 rfl rfl (fun c23 => ?_) (fun c23 => ?_)
    case refine_1 => exact absurd c23 (by omega)
    refine VW.iconst (pc' := 27) d_F_filter_26 rfl (by decide) ?_
    refine VW.goto (pc' := 31) d_F_filter_27 rfl ?_
    refine VW.callSX (pc' := 34) d_F_filter_31 rfl (sp_F_demandPlace1 (by decide)) rfl ms_F_demandPlace.1 ms_F_demandPlace.2.1 rfl ms_F_demandPlace.2.2 lk_F_97 rfl rfl rfl (by decide) (by decide) (fun _ _ _ _ _ hz => by cases hz.1) (fun r _ _ _ _ hz => ?_)
    obtain ⟨z1, z2, z3, z4, z5⟩ := hz
    cases z1
    replace z2 := z2.symm; replace z3 := z3.symm; replace z4 := z4.symm; replace z5 := z5.symm
    subst z2; subst z3; subst z4; subst z5
    refine VW.iload_n (pc' := 35) d_F_filter_34 rfl rfl ?_
    refine VW.cS (pc' := 38) d_F_filter_35 rfl ms_F_isComparison lk_F_100 rfl rfl rfl (by decide) (by decide) (F_isCmp1 hw) rfl rfl ?_
    refine VW.if_eq (tgt := 58) (pc' := 41) d_F_filter_38 rfl rfl (fun c38 => ?_) (fun c38 => ?_)
    case refine_1 => exact absurd c38 (by decide)
    refine VW.iload_n (pc' := 42) d_F_filter_41 rfl rfl ?_
    refine VW.cS (pc' := 45) d_F_filter_42 rfl ms_F_isNumber lk_F_104 rfl rfl rfl (by decide) (by decide) (F_isNum1 hv) rfl rfl ?_
    refine VW.if_ne (tgt := 54) (pc' := 48) d_F_filter_45 rfl rfl (fun c45 => ?_) (fun c45 => ?_)
    case refine_2 => exact absurd c45 (by decide)
    refine VW.iconst (pc' := 55) d_F_filter_54 rfl (by decide) ?_
    refine VW.goto (pc' := 59) d_F_filter_55 rfl ?_
    refine VW.callSX (pc' := 62) d_F_filter_59 rfl (sp_F_demandRange1 (by decide)) rfl ms_F_demandRange.1 ms_F_demandRange.2.1 rfl ms_F_demandRange.2.2 lk_F_70 rfl rfl rfl (by decide) (by decide) (fun _ _ _ _ _ hz => by cases hz.1) (fun r _ _ _ _ hz => ?_)
    obtain ⟨z1, z2, z3, z4, z5⟩ := hz
    cases z1
    replace z2 := z2.symm; replace z3 := z3.symm; replace z4 := z4.symm; replace z5 := z5.symm
    subst z2; subst z3; subst z4; subst z5
    refine VW.aload_n (pc' := 63) d_F_filter_62 rfl rfl ?_
    refine VW.gP (ci := 10) (T := T10) (N := 11) (k := 10) (k' := 10) (pc' := 66) d_F_filter_63 rfl lk_F_66 in10 rfl rfl rfl rfl (by first | exact hC.k 0 rfl | exact hC.k 2 rfl | exact hC.k 3 rfl | exact hQ.k) (by first | exact hp | exact hC.p 0 rfl | exact hC.p 9 rfl | rfl) ?_
    refine VW.iconst (pc' := 67) d_F_filter_66 rfl (by decide) ?_
    refine VW.aload_n (pc' := 68) d_F_filter_67 rfl rfl ?_
    refine VW.gP (ci := 10) (T := T10) (N := 11) (k := 10) (k' := 10) (pc' := 71) d_F_filter_68 rfl lk_F_66 in10 rfl rfl rfl rfl (by first | exact hC.k 0 rfl | exact hC.k 2 rfl | exact hC.k 3 rfl | exact hQ.k) (by first | exact hp | exact hC.p 0 rfl | exact hC.p 9 rfl | rfl) ?_
    refine VW.cV (ci := 4) (T := T4) (N := 13) (pc' := 74) d_F_filter_71 rfl mv_Query_lastWidth lk_F_241 rfl (by first | exact hC.k 0 rfl | exact hC.k 2 rfl | exact hC.k 3 rfl | exact hQ.k) rfl rfl rfl (by decide) (by decide) (sp_Query_lastWidth hQ hB) rfl rfl ?_
    refine VW.iload_n (pc' := 75) d_F_filter_74 rfl rfl ?_
    refine VW.iload_n (pc' := 76) d_F_filter_75 rfl rfl ?_
    refine VW.iload_n (pc' := 77) d_F_filter_76 rfl rfl ?_
    refine VW.iload (pc' := 79) d_F_filter_77 rfl rfl ?_
    refine VW.if_eq (tgt := 86) (pc' := 82) d_F_filter_79 rfl rfl (fun c79 => ?_) (fun c79 => ?_)
    case refine_2 => exact absurd c79 (fun z => z rfl)
    refine VW.iconst (pc' := 87) d_F_filter_86 rfl (by decide) ?_
    refine VW.cV (ci := 4) (T := T4) (N := 13) (pc' := 90) d_F_filter_87 rfl mv_Query_putOnLast lk_F_244 rfl (by first | exact hC.k 0 rfl | exact hC.k 2 rfl | exact hC.k 3 rfl | exact hQ.k) rfl rfl rfl (by decide) (by decide) (sp_Query_putOnLast hQ ⟨h0, ht.2⟩ ⟨ht.1, h7⟩) rfl rfl ?_
    refine VW.aload_n (pc' := 91) d_F_filter_90 rfl rfl ?_
    refine VW.gP (ci := 10) (T := T10) (N := 11) (k := 10) (k' := 10) (pc' := 94) d_F_filter_91 rfl lk_F_66 in10 rfl rfl rfl rfl (by first | exact hC.k 0 rfl | exact hC.k 2 rfl | exact hC.k 3 rfl | exact hQ.k) (by first | exact hp | exact hC.p 0 rfl | exact hC.p 9 rfl | rfl) ?_
    refine VW.gI (ci := 4) (T := T4) (N := 13) (k := 7) (k' := 7) (pc' := 97) d_F_filter_94 rfl lk_F_228 in4 rfl rfl rfl rfl (by first | exact hC.k 0 rfl | exact hC.k 2 rfl | exact hC.k 3 rfl | exact hQ.k) (by first | exact hp | exact hC.p 0 rfl | exact hC.p 9 rfl | rfl) ?_
    exact VW.iret d_F_filter_97 rfl rfl (by decide) (by decide) ex_rf
  · refine VW.aload_n (pc' := 1) d_F_filter_0 rfl rfl ?_
    refine VW.gP (ci := 10) (T := T10) (N := 11) (k := 10) (k' := 10) (pc' := 4) d_F_filter_1 rfl lk_F_66 in10 rfl rfl rfl rfl (by first | exact hC.k 0 rfl | exact hC.k 2 rfl | exact hC.k 3 rfl | exact hQ.k) (by first | exact hp | exact hC.p 0 rfl | exact hC.p 9 rfl | rfl) ?_
    refine VW.iconst (pc' := 5) d_F_filter_4 rfl (by decide) ?_
    refine VW.cV (ci := 4) (T := T4) (N := 13) (pc' := 8) d_F_filter_5 rfl mv_Query_takesOperator lk_F_238 rfl (by first | exact hC.k 0 rfl | exact hC.k 2 rfl | exact hC.k 3 rfl | exact hQ.k) rfl rfl rfl (by decide) (by decide) (tkY hQ ht) rfl rfl ?_
    refine VW.callSX (pc' := 11) d_F_filter_8 rfl (sp_F_demandState1 (by decide)) rfl ms_F_demandState.1 ms_F_demandState.2.1 rfl ms_F_demandState.2.2 lk_F_82 rfl rfl rfl (by decide) (by decide) (fun _ _ _ _ _ hz => by cases hz.1) (fun r _ _ _ _ hz => ?_)
    obtain ⟨z1, z2, z3, z4, z5⟩ := hz
    cases z1
    replace z2 := z2.symm; replace z3 := z3.symm; replace z4 := z4.symm; replace z5 := z5.symm
    subst z2; subst z3; subst z4; subst z5
    refine VW.iload_n (pc' := 12) d_F_filter_11 rfl rfl ?_
    refine VW.if_lt (tgt := 30) (pc' := 15) d_F_filter_12 rfl rfl (fun c12 => ?_) (fun c12 => ?_)
    case refine_1 => exact absurd c12 (by omega)
    refine VW.iload_n (pc' := 16) d_F_filter_15 rfl rfl ?_
    refine VW.aload_n (pc' := 17) d_F_filter_16 rfl rfl ?_
    refine VW.gP (ci := 10) (T := T10) (N := 11) (k := 10) (k' := 10) (pc' := 20) d_F_filter_17 rfl lk_F_66 in10 rfl rfl rfl rfl (by first | exact hC.k 0 rfl | exact hC.k 2 rfl | exact hC.k 3 rfl | exact hQ.k) (by first | exact hp | exact hC.p 0 rfl | exact hC.p 9 rfl | rfl) ?_
    refine VW.cV (ci := 4) (T := T4) (N := 13) (pc' := 23) d_F_filter_20 rfl mv_Query_lastWidth lk_F_241 rfl (by first | exact hC.k 0 rfl | exact hC.k 2 rfl | exact hC.k 3 rfl | exact hQ.k) rfl rfl rfl (by decide) (by decide) (sp_Query_lastWidth hQ hB) rfl rfl ?_
    refine VW.icmp_ge (tgt := 30) (pc' := 26) d_F_filter_23 rfl rfl (fun c23 => ?_) (fun c23 => ?_)
    case refine_1 => exact absurd c23 (by omega)
    refine VW.iconst (pc' := 27) d_F_filter_26 rfl (by decide) ?_
    refine VW.goto (pc' := 31) d_F_filter_27 rfl ?_
    refine VW.callSX (pc' := 34) d_F_filter_31 rfl (sp_F_demandPlace1 (by decide)) rfl ms_F_demandPlace.1 ms_F_demandPlace.2.1 rfl ms_F_demandPlace.2.2 lk_F_97 rfl rfl rfl (by decide) (by decide) (fun _ _ _ _ _ hz => by cases hz.1) (fun r _ _ _ _ hz => ?_)
    obtain ⟨z1, z2, z3, z4, z5⟩ := hz
    cases z1
    replace z2 := z2.symm; replace z3 := z3.symm; replace z4 := z4.symm; replace z5 := z5.symm
    subst z2; subst z3; subst z4; subst z5
    refine VW.iload_n (pc' := 35) d_F_filter_34 rfl rfl ?_
    refine VW.cS (pc' := 38) d_F_filter_35 rfl ms_F_isComparison lk_F_100 rfl rfl rfl (by decide) (by decide) (F_isCmp1 hw) rfl rfl ?_
    refine VW.if_eq (tgt := 58) (pc' := 41) d_F_filter_38 rfl rfl (fun c38 => ?_) (fun c38 => ?_)
    case refine_1 => exact absurd c38 (by decide)
    refine VW.iload_n (pc' := 42) d_F_filter_41 rfl rfl ?_
    refine VW.cS (pc' := 45) d_F_filter_42 rfl ms_F_isNumber lk_F_104 rfl rfl rfl (by decide) (by decide) (F_isNum1 hv) rfl rfl ?_
    refine VW.if_ne (tgt := 54) (pc' := 48) d_F_filter_45 rfl rfl (fun c45 => ?_) (fun c45 => ?_)
    case refine_2 => exact absurd c45 (by decide)
    refine VW.iconst (pc' := 55) d_F_filter_54 rfl (by decide) ?_
    refine VW.goto (pc' := 59) d_F_filter_55 rfl ?_
    refine VW.callSX (pc' := 62) d_F_filter_59 rfl (sp_F_demandRange1 (by decide)) rfl ms_F_demandRange.1 ms_F_demandRange.2.1 rfl ms_F_demandRange.2.2 lk_F_70 rfl rfl rfl (by decide) (by decide) (fun _ _ _ _ _ hz => by cases hz.1) (fun r _ _ _ _ hz => ?_)
    obtain ⟨z1, z2, z3, z4, z5⟩ := hz
    cases z1
    replace z2 := z2.symm; replace z3 := z3.symm; replace z4 := z4.symm; replace z5 := z5.symm
    subst z2; subst z3; subst z4; subst z5
    refine VW.aload_n (pc' := 63) d_F_filter_62 rfl rfl ?_
    refine VW.gP (ci := 10) (T := T10) (N := 11) (k := 10) (k' := 10) (pc' := 66) d_F_filter_63 rfl lk_F_66 in10 rfl rfl rfl rfl (by first | exact hC.k 0 rfl | exact hC.k 2 rfl | exact hC.k 3 rfl | exact hQ.k) (by first | exact hp | exact hC.p 0 rfl | exact hC.p 9 rfl | rfl) ?_
    refine VW.iconst (pc' := 67) d_F_filter_66 rfl (by decide) ?_
    refine VW.aload_n (pc' := 68) d_F_filter_67 rfl rfl ?_
    refine VW.gP (ci := 10) (T := T10) (N := 11) (k := 10) (k' := 10) (pc' := 71) d_F_filter_68 rfl lk_F_66 in10 rfl rfl rfl rfl (by first | exact hC.k 0 rfl | exact hC.k 2 rfl | exact hC.k 3 rfl | exact hQ.k) (by first | exact hp | exact hC.p 0 rfl | exact hC.p 9 rfl | rfl) ?_
    refine VW.cV (ci := 4) (T := T4) (N := 13) (pc' := 74) d_F_filter_71 rfl mv_Query_lastWidth lk_F_241 rfl (by first | exact hC.k 0 rfl | exact hC.k 2 rfl | exact hC.k 3 rfl | exact hQ.k) rfl rfl rfl (by decide) (by decide) (sp_Query_lastWidth hQ hB) rfl rfl ?_
    refine VW.iload_n (pc' := 75) d_F_filter_74 rfl rfl ?_
    refine VW.iload_n (pc' := 76) d_F_filter_75 rfl rfl ?_
    refine VW.iload_n (pc' := 77) d_F_filter_76 rfl rfl ?_
    refine VW.iload (pc' := 79) d_F_filter_77 rfl rfl ?_
    refine VW.if_eq (tgt := 86) (pc' := 82) d_F_filter_79 rfl rfl (fun c79 => ?_) (fun c79 => ?_)
    case refine_1 => exact absurd c79 (by decide)
    refine VW.iconst (pc' := 83) d_F_filter_82 rfl (by decide) ?_
    refine VW.goto (pc' := 87) d_F_filter_83 rfl ?_
    refine VW.cV (ci := 4) (T := T4) (N := 13) (pc' := 90) d_F_filter_87 rfl mv_Query_putOnLast lk_F_244 rfl (by first | exact hC.k 0 rfl | exact hC.k 2 rfl | exact hC.k 3 rfl | exact hQ.k) rfl rfl rfl (by decide) (by decide) (sp_Query_putOnLast hQ ⟨h0, ht.2⟩ ⟨ht.1, h7⟩) rfl rfl ?_
    refine VW.aload_n (pc' := 91) d_F_filter_90 rfl rfl ?_
    refine VW.gP (ci := 10) (T := T10) (N := 11) (k := 10) (k' := 10) (pc' := 94) d_F_filter_91 rfl lk_F_66 in10 rfl rfl rfl rfl (by first | exact hC.k 0 rfl | exact hC.k 2 rfl | exact hC.k 3 rfl | exact hQ.k) (by first | exact hp | exact hC.p 0 rfl | exact hC.p 9 rfl | rfl) ?_
    refine VW.gI (ci := 4) (T := T4) (N := 13) (k := 7) (k' := 7) (pc' := 97) d_F_filter_94 rfl lk_F_228 in4 rfl rfl rfl rfl (by first | exact hC.k 0 rfl | exact hC.k 2 rfl | exact hC.k 3 rfl | exact hQ.k) (by first | exact hp | exact hC.p 0 rfl | exact hC.p 9 rfl | rfl) ?_
    exact VW.iret d_F_filter_97 rfl rfl (by decide) (by decide) ex_rf
theorem filter_run0 (hC : ClW K P) (hp : P 1000 10 = some q) (hQ : QuW K P q) (hB : QuB I q) (ht : 1 ≤ I q 7 ∧ I q 0 < 12) (hc : 0 ≤ c ∧ c < quLast I q) (h0 : 0 ≤ I q 0) (h7 : I q 7 ≤ 6) (hw : 0 ≤ w ∧ w ≤ 2) (hz : nt = 0 ∨ nt = 1) : Sp m_F_filter true ({ frames := 12, cells := 0, slots := 0, locals := 400 } : Room) (ex K P J (quOne I q 1 (quLast I q) c w (-2147483648) nt) (.inl (some (vI (quOne I q 1 (quLast I q) c w (-2147483648) nt q 7))))) K P J I [vR (some 1000), vI c, vI w, vI (-2147483648), vI nt] := by
  rcases hz with rfl | rfl
  all_goals refine Sp.ofV (by decide) (Or.inl rfl) rfl ?_
  · refine VW.aload_n (pc' := 1) d_F_filter_0 rfl rfl ?_
    refine VW.gP (ci := 10) (T := T10) (N := 11) (k := 10) (k' := 10) (pc' := 4) d_F_filter_1 rfl lk_F_66 in10 rfl rfl rfl rfl (by first | exact hC.k 0 rfl | exact hC.k 2 rfl | exact hC.k 3 rfl | exact hQ.k) (by first | exact hp | exact hC.p 0 rfl | exact hC.p 9 rfl | rfl) ?_
    refine VW.iconst (pc' := 5) d_F_filter_4 rfl (by decide) ?_
    refine VW.cV (ci := 4) (T := T4) (N := 13) (pc' := 8) d_F_filter_5 rfl mv_Query_takesOperator lk_F_238 rfl (by first | exact hC.k 0 rfl | exact hC.k 2 rfl | exact hC.k 3 rfl | exact hQ.k) rfl rfl rfl (by decide) (by decide) (tkY hQ ht) rfl rfl ?_
    refine VW.callSX (pc' := 11) d_F_filter_8 rfl (sp_F_demandState1 (by decide)) rfl ms_F_demandState.1 ms_F_demandState.2.1 rfl ms_F_demandState.2.2 lk_F_82 rfl rfl rfl (by decide) (by decide) (fun _ _ _ _ _ hz => by cases hz.1) (fun r _ _ _ _ hz => ?_)
    obtain ⟨z1, z2, z3, z4, z5⟩ := hz
    cases z1
    replace z2 := z2.symm; replace z3 := z3.symm; replace z4 := z4.symm; replace z5 := z5.symm
    subst z2; subst z3; subst z4; subst z5
    refine VW.iload_n (pc' := 12) d_F_filter_11 rfl rfl ?_
    refine VW.if_lt (tgt := 30) (pc' := 15) d_F_filter_12 rfl rfl (fun c12 => ?_) (fun c12 => ?_)
    case refine_1 => exact absurd c12 (by omega)
    refine VW.iload_n (pc' := 16) d_F_filter_15 rfl rfl ?_
    refine VW.aload_n (pc' := 17) d_F_filter_16 rfl rfl ?_
    refine VW.gP (ci := 10) (T := T10) (N := 11) (k := 10) (k' := 10) (pc' := 20) d_F_filter_17 rfl lk_F_66 in10 rfl rfl rfl rfl (by first | exact hC.k 0 rfl | exact hC.k 2 rfl | exact hC.k 3 rfl | exact hQ.k) (by first | exact hp | exact hC.p 0 rfl | exact hC.p 9 rfl | rfl) ?_
    refine VW.cV (ci := 4) (T := T4) (N := 13) (pc' := 23) d_F_filter_20 rfl mv_Query_lastWidth lk_F_241 rfl (by first | exact hC.k 0 rfl | exact hC.k 2 rfl | exact hC.k 3 rfl | exact hQ.k) rfl rfl rfl (by decide) (by decide) (sp_Query_lastWidth hQ hB) rfl rfl ?_
    refine VW.icmp_ge (tgt := 30) (pc' := 26) d_F_filter_23 rfl rfl (fun c23 => ?_) (fun c23 => ?_)
    case refine_1 => exact absurd c23 (by omega)
    refine VW.iconst (pc' := 27) d_F_filter_26 rfl (by decide) ?_
    refine VW.goto (pc' := 31) d_F_filter_27 rfl ?_
    refine VW.callSX (pc' := 34) d_F_filter_31 rfl (sp_F_demandPlace1 (by decide)) rfl ms_F_demandPlace.1 ms_F_demandPlace.2.1 rfl ms_F_demandPlace.2.2 lk_F_97 rfl rfl rfl (by decide) (by decide) (fun _ _ _ _ _ hz => by cases hz.1) (fun r _ _ _ _ hz => ?_)
    obtain ⟨z1, z2, z3, z4, z5⟩ := hz
    cases z1
    replace z2 := z2.symm; replace z3 := z3.symm; replace z4 := z4.symm; replace z5 := z5.symm
    subst z2; subst z3; subst z4; subst z5
    refine VW.iload_n (pc' := 35) d_F_filter_34 rfl rfl ?_
    refine VW.cS (pc' := 38) d_F_filter_35 rfl ms_F_isComparison lk_F_100 rfl rfl rfl (by decide) (by decide) (F_isCmp1 hw) rfl rfl ?_
    refine VW.if_eq (tgt := 58) (pc' := 41) d_F_filter_38 rfl rfl (fun c38 => ?_) (fun c38 => ?_)
    case refine_1 => exact absurd c38 (by decide)
    refine VW.iload_n (pc' := 42) d_F_filter_41 rfl rfl ?_
    refine VW.cS (pc' := 45) d_F_filter_42 rfl ms_F_isNumber lk_F_104 rfl rfl rfl (by decide) (by decide) (F_isNum0 (by omega)) rfl rfl ?_
    refine VW.if_ne (tgt := 54) (pc' := 48) d_F_filter_45 rfl rfl (fun c45 => ?_) (fun c45 => ?_)
    case refine_1 => exact absurd c45 (fun z => z rfl)
    refine VW.iload_n (pc' := 49) d_F_filter_48 rfl rfl ?_
    refine VW.ldc (pc' := 51) (z := -2147483648) d_F_filter_49 rfl lk_F_153 (by decide) (by decide) ?_
    refine VW.icmp_ne (tgt := 58) (pc' := 54) d_F_filter_51 rfl rfl (fun c51 => ?_) (fun c51 => ?_)
    case refine_1 => exact absurd c51 (fun z => z rfl)
    refine VW.iconst (pc' := 55) d_F_filter_54 rfl (by decide) ?_
    refine VW.goto (pc' := 59) d_F_filter_55 rfl ?_
    refine VW.callSX (pc' := 62) d_F_filter_59 rfl (sp_F_demandRange1 (by decide)) rfl ms_F_demandRange.1 ms_F_demandRange.2.1 rfl ms_F_demandRange.2.2 lk_F_70 rfl rfl rfl (by decide) (by decide) (fun _ _ _ _ _ hz => by cases hz.1) (fun r _ _ _ _ hz => ?_)
    obtain ⟨z1, z2, z3, z4, z5⟩ := hz
    cases z1
    replace z2 := z2.symm; replace z3 := z3.symm; replace z4 := z4.symm; replace z5 := z5.symm
    subst z2; subst z3; subst z4; subst z5
    refine VW.aload_n (pc' := 63) d_F_filter_62 rfl rfl ?_
    refine VW.gP (ci := 10) (T := T10) (N := 11) (k := 10) (k' := 10) (pc' := 66) d_F_filter_63 rfl lk_F_66 in10 rfl rfl rfl rfl (by first | exact hC.k 0 rfl | exact hC.k 2 rfl | exact hC.k 3 rfl | exact hQ.k) (by first | exact hp | exact hC.p 0 rfl | exact hC.p 9 rfl | rfl) ?_
    refine VW.iconst (pc' := 67) d_F_filter_66 rfl (by decide) ?_
    refine VW.aload_n (pc' := 68) d_F_filter_67 rfl rfl ?_
    refine VW.gP (ci := 10) (T := T10) (N := 11) (k := 10) (k' := 10) (pc' := 71) d_F_filter_68 rfl lk_F_66 in10 rfl rfl rfl rfl (by first | exact hC.k 0 rfl | exact hC.k 2 rfl | exact hC.k 3 rfl | exact hQ.k) (by first | exact hp | exact hC.p 0 rfl | exact hC.p 9 rfl | rfl) ?_
    refine VW.cV (ci := 4) (T := T4) (N := 13) (pc' := 74) d_F_filter_71 rfl mv_Query_lastWidth lk_F_241 rfl (by first | exact hC.k 0 rfl | exact hC.k 2 rfl | exact hC.k 3 rfl | exact hQ.k) rfl rfl rfl (by decide) (by decide) (sp_Query_lastWidth hQ hB) rfl rfl ?_
    refine VW.iload_n (pc' := 75) d_F_filter_74 rfl rfl ?_
    refine VW.iload_n (pc' := 76) d_F_filter_75 rfl rfl ?_
    refine VW.iload_n (pc' := 77) d_F_filter_76 rfl rfl ?_
    refine VW.iload (pc' := 79) d_F_filter_77 rfl rfl ?_
    refine VW.if_eq (tgt := 86) (pc' := 82) d_F_filter_79 rfl rfl (fun c79 => ?_) (fun c79 => ?_)
    case refine_2 => exact absurd c79 (fun z => z rfl)
    refine VW.iconst (pc' := 87) d_F_filter_86 rfl (by decide) ?_
    refine VW.cV (ci := 4) (T := T4) (N := 13) (pc' := 90) d_F_filter_87 rfl mv_Query_putOnLast lk_F_244 rfl (by first | exact hC.k 0 rfl | exact hC.k 2 rfl | exact hC.k 3 rfl | exact hQ.k) rfl rfl rfl (by decide) (by decide) (sp_Query_putOnLast hQ ⟨h0, ht.2⟩ ⟨ht.1, h7⟩) rfl rfl ?_
    refine VW.aload_n (pc' := 91) d_F_filter_90 rfl rfl ?_
    refine VW.gP (ci := 10) (T := T10) (N := 11) (k := 10) (k' := 10) (pc' := 94) d_F_filter_91 rfl lk_F_66 in10 rfl rfl rfl rfl (by first | exact hC.k 0 rfl | exact hC.k 2 rfl | exact hC.k 3 rfl | exact hQ.k) (by first | exact hp | exact hC.p 0 rfl | exact hC.p 9 rfl | rfl) ?_
    refine VW.gI (ci := 4) (T := T4) (N := 13) (k := 7) (k' := 7) (pc' := 97) d_F_filter_94 rfl lk_F_228 in4 rfl rfl rfl rfl (by first | exact hC.k 0 rfl | exact hC.k 2 rfl | exact hC.k 3 rfl | exact hQ.k) (by first | exact hp | exact hC.p 0 rfl | exact hC.p 9 rfl | rfl) ?_
    exact VW.iret d_F_filter_97 rfl rfl (by decide) (by decide) ex_rf
  · refine VW.aload_n (pc' := 1) d_F_filter_0 rfl rfl ?_
    refine VW.gP (ci := 10) (T := T10) (N := 11) (k := 10) (k' := 10) (pc' := 4) d_F_filter_1 rfl lk_F_66 in10 rfl rfl rfl rfl (by first | exact hC.k 0 rfl | exact hC.k 2 rfl | exact hC.k 3 rfl | exact hQ.k) (by first | exact hp | exact hC.p 0 rfl | exact hC.p 9 rfl | rfl) ?_
    refine VW.iconst (pc' := 5) d_F_filter_4 rfl (by decide) ?_
    refine VW.cV (ci := 4) (T := T4) (N := 13) (pc' := 8) d_F_filter_5 rfl mv_Query_takesOperator lk_F_238 rfl (by first | exact hC.k 0 rfl | exact hC.k 2 rfl | exact hC.k 3 rfl | exact hQ.k) rfl rfl rfl (by decide) (by decide) (tkY hQ ht) rfl rfl ?_
    refine VW.callSX (pc' := 11) d_F_filter_8 rfl (sp_F_demandState1 (by decide)) rfl ms_F_demandState.1 ms_F_demandState.2.1 rfl ms_F_demandState.2.2 lk_F_82 rfl rfl rfl (by decide) (by decide) (fun _ _ _ _ _ hz => by cases hz.1) (fun r _ _ _ _ hz => ?_)
    obtain ⟨z1, z2, z3, z4, z5⟩ := hz
    cases z1
    replace z2 := z2.symm; replace z3 := z3.symm; replace z4 := z4.symm; replace z5 := z5.symm
    subst z2; subst z3; subst z4; subst z5
    refine VW.iload_n (pc' := 12) d_F_filter_11 rfl rfl ?_
    refine VW.if_lt (tgt := 30) (pc' := 15) d_F_filter_12 rfl rfl (fun c12 => ?_) (fun c12 => ?_)
    case refine_1 => exact absurd c12 (by omega)
    refine VW.iload_n (pc' := 16) d_F_filter_15 rfl rfl ?_
    refine VW.aload_n (pc' := 17) d_F_filter_16 rfl rfl ?_
    refine VW.gP (ci := 10) (T := T10) (N := 11) (k := 10) (k' := 10) (pc' := 20) d_F_filter_17 rfl lk_F_66 in10 rfl rfl rfl rfl (by first | exact hC.k 0 rfl | exact hC.k 2 rfl | exact hC.k 3 rfl | exact hQ.k) (by first | exact hp | exact hC.p 0 rfl | exact hC.p 9 rfl | rfl) ?_
    refine VW.cV (ci := 4) (T := T4) (N := 13) (pc' := 23) d_F_filter_20 rfl mv_Query_lastWidth lk_F_241 rfl (by first | exact hC.k 0 rfl | exact hC.k 2 rfl | exact hC.k 3 rfl | exact hQ.k) rfl rfl rfl (by decide) (by decide) (sp_Query_lastWidth hQ hB) rfl rfl ?_
    refine VW.icmp_ge (tgt := 30) (pc' := 26) d_F_filter_23 rfl rfl (fun c23 => ?_) (fun c23 => ?_)
    case refine_1 => exact absurd c23 (by omega)
    refine VW.iconst (pc' := 27) d_F_filter_26 rfl (by decide) ?_
    refine VW.goto (pc' := 31) d_F_filter_27 rfl ?_
    refine VW.callSX (pc' := 34) d_F_filter_31 rfl (sp_F_demandPlace1 (by decide)) rfl ms_F_demandPlace.1 ms_F_demandPlace.2.1 rfl ms_F_demandPlace.2.2 lk_F_97 rfl rfl rfl (by decide) (by decide) (fun _ _ _ _ _ hz => by cases hz.1) (fun r _ _ _ _ hz => ?_)
    obtain ⟨z1, z2, z3, z4, z5⟩ := hz
    cases z1
    replace z2 := z2.symm; replace z3 := z3.symm; replace z4 := z4.symm; replace z5 := z5.symm
    subst z2; subst z3; subst z4; subst z5
    refine VW.iload_n (pc' := 35) d_F_filter_34 rfl rfl ?_
    refine VW.cS (pc' := 38) d_F_filter_35 rfl ms_F_isComparison lk_F_100 rfl rfl rfl (by decide) (by decide) (F_isCmp1 hw) rfl rfl ?_
    refine VW.if_eq (tgt := 58) (pc' := 41) d_F_filter_38 rfl rfl (fun c38 => ?_) (fun c38 => ?_)
    case refine_1 => exact absurd c38 (by decide)
    refine VW.iload_n (pc' := 42) d_F_filter_41 rfl rfl ?_
    refine VW.cS (pc' := 45) d_F_filter_42 rfl ms_F_isNumber lk_F_104 rfl rfl rfl (by decide) (by decide) (F_isNum0 (by omega)) rfl rfl ?_
    refine VW.if_ne (tgt := 54) (pc' := 48) d_F_filter_45 rfl rfl (fun c45 => ?_) (fun c45 => ?_)
    case refine_1 => exact absurd c45 (fun z => z rfl)
    refine VW.iload_n (pc' := 49) d_F_filter_48 rfl rfl ?_
    refine VW.ldc (pc' := 51) (z := -2147483648) d_F_filter_49 rfl lk_F_153 (by decide) (by decide) ?_
    refine VW.icmp_ne (tgt := 58) (pc' := 54) d_F_filter_51 rfl rfl (fun c51 => ?_) (fun c51 => ?_)
    case refine_1 => exact absurd c51 (fun z => z rfl)
    refine VW.iconst (pc' := 55) d_F_filter_54 rfl (by decide) ?_
    refine VW.goto (pc' := 59) d_F_filter_55 rfl ?_
    refine VW.callSX (pc' := 62) d_F_filter_59 rfl (sp_F_demandRange1 (by decide)) rfl ms_F_demandRange.1 ms_F_demandRange.2.1 rfl ms_F_demandRange.2.2 lk_F_70 rfl rfl rfl (by decide) (by decide) (fun _ _ _ _ _ hz => by cases hz.1) (fun r _ _ _ _ hz => ?_)
    obtain ⟨z1, z2, z3, z4, z5⟩ := hz
    cases z1
    replace z2 := z2.symm; replace z3 := z3.symm; replace z4 := z4.symm; replace z5 := z5.symm
    subst z2; subst z3; subst z4; subst z5
    refine VW.aload_n (pc' := 63) d_F_filter_62 rfl rfl ?_
    refine VW.gP (ci := 10) (T := T10) (N := 11) (k := 10) (k' := 10) (pc' := 66) d_F_filter_63 rfl lk_F_66 in10 rfl rfl rfl rfl (by first | exact hC.k 0 rfl | exact hC.k 2 rfl | exact hC.k 3 rfl | exact hQ.k) (by first | exact hp | exact hC.p 0 rfl | exact hC.p 9 rfl | rfl) ?_
    refine VW.iconst (pc' := 67) d_F_filter_66 rfl (by decide) ?_
    refine VW.aload_n (pc' := 68) d_F_filter_67 rfl rfl ?_
    refine VW.gP (ci := 10) (T := T10) (N := 11) (k := 10) (k' := 10) (pc' := 71) d_F_filter_68 rfl lk_F_66 in10 rfl rfl rfl rfl (by first | exact hC.k 0 rfl | exact hC.k 2 rfl | exact hC.k 3 rfl | exact hQ.k) (by first | exact hp | exact hC.p 0 rfl | exact hC.p 9 rfl | rfl) ?_
    refine VW.cV (ci := 4) (T := T4) (N := 13) (pc' := 74) d_F_filter_71 rfl mv_Query_lastWidth lk_F_241 rfl (by first | exact hC.k 0 rfl | exact hC.k 2 rfl | exact hC.k 3 rfl | exact hQ.k) rfl rfl rfl (by decide) (by decide) (sp_Query_lastWidth hQ hB) rfl rfl ?_
    refine VW.iload_n (pc' := 75) d_F_filter_74 rfl rfl ?_
    refine VW.iload_n (pc' := 76) d_F_filter_75 rfl rfl ?_
    refine VW.iload_n (pc' := 77) d_F_filter_76 rfl rfl ?_
    refine VW.iload (pc' := 79) d_F_filter_77 rfl rfl ?_
    refine VW.if_eq (tgt := 86) (pc' := 82) d_F_filter_79 rfl rfl (fun c79 => ?_) (fun c79 => ?_)
    case refine_1 => exact absurd c79 (by decide)
    refine VW.iconst (pc' := 83) d_F_filter_82 rfl (by decide) ?_
    refine VW.goto (pc' := 87) d_F_filter_83 rfl ?_
    refine VW.cV (ci := 4) (T := T4) (N := 13) (pc' := 90) d_F_filter_87 rfl mv_Query_putOnLast lk_F_244 rfl (by first | exact hC.k 0 rfl | exact hC.k 2 rfl | exact hC.k 3 rfl | exact hQ.k) rfl rfl rfl (by decide) (by decide) (sp_Query_putOnLast hQ ⟨h0, ht.2⟩ ⟨ht.1, h7⟩) rfl rfl ?_
    refine VW.aload_n (pc' := 91) d_F_filter_90 rfl rfl ?_
    refine VW.gP (ci := 10) (T := T10) (N := 11) (k := 10) (k' := 10) (pc' := 94) d_F_filter_91 rfl lk_F_66 in10 rfl rfl rfl rfl (by first | exact hC.k 0 rfl | exact hC.k 2 rfl | exact hC.k 3 rfl | exact hQ.k) (by first | exact hp | exact hC.p 0 rfl | exact hC.p 9 rfl | rfl) ?_
    refine VW.gI (ci := 4) (T := T4) (N := 13) (k := 7) (k' := 7) (pc' := 97) d_F_filter_94 rfl lk_F_228 in4 rfl rfl rfl rfl (by first | exact hC.k 0 rfl | exact hC.k 2 rfl | exact hC.k 3 rfl | exact hQ.k) (by first | exact hp | exact hC.p 0 rfl | exact hC.p 9 rfl | rfl) ?_
    exact VW.iret d_F_filter_97 rfl rfl (by decide) (by decide) ex_rf
theorem filterColumns_no2 (hC : ClW K P) (hp : P 1000 10 = some q) (hQ : QuW K P q) (hB : QuB I q) (ht : 1 ≤ I q 7 ∧ I q 0 < 12) (h : ¬ ((0 ≤ c ∧ c < quLast I q) ∧ 0 ≤ o ∧ o < quLast I q)) : Sp m_F_filterColumns true ({ frames := 12, cells := 1, slots := 6, locals := 400 } : Room) (ex K P J I (.inr eIOO)) K P J I [vR (some 1000), vI c, vI w, vI o, vI nt] := by
  refine Sp.ofV (by decide) (Or.inl rfl) rfl ?_
  refine VW.aload_n (pc' := 1) d_F_filterColumns_0 rfl rfl ?_
  refine VW.gP (ci := 10) (T := T10) (N := 11) (k := 10) (k' := 10) (pc' := 4) d_F_filterColumns_1 rfl lk_F_66 in10 rfl rfl rfl rfl (by first | exact hC.k 0 rfl | exact hC.k 2 rfl | exact hC.k 3 rfl | exact hQ.k) (by first | exact hp | exact hC.p 0 rfl | exact hC.p 9 rfl | rfl) ?_
  refine VW.iconst (pc' := 5) d_F_filterColumns_4 rfl (by decide) ?_
  refine VW.cV (ci := 4) (T := T4) (N := 13) (pc' := 8) d_F_filterColumns_5 rfl mv_Query_takesOperator lk_F_238 rfl (by first | exact hC.k 0 rfl | exact hC.k 2 rfl | exact hC.k 3 rfl | exact hQ.k) rfl rfl rfl (by decide) (by decide) (tkY hQ ht) rfl rfl ?_
  refine VW.callSX (pc' := 11) d_F_filterColumns_8 rfl (sp_F_demandState1 (by decide)) rfl ms_F_demandState.1 ms_F_demandState.2.1 rfl ms_F_demandState.2.2 lk_F_82 rfl rfl rfl (by decide) (by decide) (fun _ _ _ _ _ hz => by cases hz.1) (fun r _ _ _ _ hz => ?_)
  obtain ⟨z1, z2, z3, z4, z5⟩ := hz
  cases z1
  replace z2 := z2.symm; replace z3 := z3.symm; replace z4 := z4.symm; replace z5 := z5.symm
  subst z2; subst z3; subst z4; subst z5
  refine VW.aload_n (pc' := 12) d_F_filterColumns_11 rfl rfl ?_
  refine VW.gP (ci := 10) (T := T10) (N := 11) (k := 10) (k' := 10) (pc' := 15) d_F_filterColumns_12 rfl lk_F_66 in10 rfl rfl rfl rfl (by first | exact hC.k 0 rfl | exact hC.k 2 rfl | exact hC.k 3 rfl | exact hQ.k) (by first | exact hp | exact hC.p 0 rfl | exact hC.p 9 rfl | rfl) ?_
  refine VW.cV (ci := 4) (T := T4) (N := 13) (pc' := 18) d_F_filterColumns_15 rfl mv_Query_lastWidth lk_F_241 rfl (by first | exact hC.k 0 rfl | exact hC.k 2 rfl | exact hC.k 3 rfl | exact hQ.k) rfl rfl rfl (by decide) (by decide) (sp_Query_lastWidth hQ hB) rfl rfl ?_
  refine VW.istore (pc' := 20) d_F_filterColumns_18 rfl rfl ?_
  refine VW.iload_n (pc' := 21) d_F_filterColumns_20 rfl rfl ?_
  refine VW.if_lt (tgt := 44) (pc' := 24) d_F_filterColumns_21 rfl rfl (fun c21 => ?_) (fun c21 => ?_)
  · refine VW.iconst (pc' := 45) d_F_filterColumns_44 rfl (by decide) ?_
    refine VW.callSX (pc' := 48) d_F_filterColumns_45 rfl (sp_F_demandPlace0) rfl ms_F_demandPlace.1 ms_F_demandPlace.2.1 rfl ms_F_demandPlace.2.2 lk_F_97 rfl rfl rfl (by decide) (by decide) (fun _ _ _ _ _ hz => ?_) (fun _ _ _ _ _ hz => by cases hz.1)
    obtain ⟨z1, z2, z3, z4, z5⟩ := hz
    cases z1
    replace z2 := z2.symm; replace z3 := z3.symm; replace z4 := z4.symm; replace z5 := z5.symm
    subst z2; subst z3; subst z4; subst z5
    exact Or.inl ⟨rfl, ex_rf⟩
    -- end
  · refine VW.iload_n (pc' := 25) d_F_filterColumns_24 rfl rfl ?_
    refine VW.iload (pc' := 27) d_F_filterColumns_25 rfl rfl ?_
    refine VW.icmp_ge (tgt := 44) (pc' := 30) d_F_filterColumns_27 rfl rfl (fun c27 => ?_) (fun c27 => ?_)
    · refine VW.iconst (pc' := 45) d_F_filterColumns_44 rfl (by decide) ?_
      refine VW.callSX (pc' := 48) d_F_filterColumns_45 rfl (sp_F_demandPlace0) rfl ms_F_demandPlace.1 ms_F_demandPlace.2.1 rfl ms_F_demandPlace.2.2 lk_F_97 rfl rfl rfl (by decide) (by decide) (fun _ _ _ _ _ hz => ?_) (fun _ _ _ _ _ hz => by cases hz.1)
      obtain ⟨z1, z2, z3, z4, z5⟩ := hz
      cases z1
      replace z2 := z2.symm; replace z3 := z3.symm; replace z4 := z4.symm; replace z5 := z5.symm
      subst z2; subst z3; subst z4; subst z5
      exact Or.inl ⟨rfl, ex_rf⟩
      -- end
    · refine VW.iload_n (pc' := 31) d_F_filterColumns_30 rfl rfl ?_
      refine VW.if_lt (tgt := 44) (pc' := 34) d_F_filterColumns_31 rfl rfl (fun c31 => ?_) (fun c31 => ?_)
      · refine VW.iconst (pc' := 45) d_F_filterColumns_44 rfl (by decide) ?_
        refine VW.callSX (pc' := 48) d_F_filterColumns_45 rfl (sp_F_demandPlace0) rfl ms_F_demandPlace.1 ms_F_demandPlace.2.1 rfl ms_F_demandPlace.2.2 lk_F_97 rfl rfl rfl (by decide) (by decide) (fun _ _ _ _ _ hz => ?_) (fun _ _ _ _ _ hz => by cases hz.1)
        obtain ⟨z1, z2, z3, z4, z5⟩ := hz
        cases z1
        replace z2 := z2.symm; replace z3 := z3.symm; replace z4 := z4.symm; replace z5 := z5.symm
        subst z2; subst z3; subst z4; subst z5
        exact Or.inl ⟨rfl, ex_rf⟩
        -- end
      · refine VW.iload_n (pc' := 35) d_F_filterColumns_34 rfl rfl ?_
        refine VW.iload (pc' := 37) d_F_filterColumns_35 rfl rfl ?_
        refine VW.icmp_ge (tgt := 44) (pc' := 40) d_F_filterColumns_37 rfl rfl (fun c37 => ?_) (fun c37 => ?_)
        · refine VW.iconst (pc' := 45) d_F_filterColumns_44 rfl (by decide) ?_
          refine VW.callSX (pc' := 48) d_F_filterColumns_45 rfl (sp_F_demandPlace0) rfl ms_F_demandPlace.1 ms_F_demandPlace.2.1 rfl ms_F_demandPlace.2.2 lk_F_97 rfl rfl rfl (by decide) (by decide) (fun _ _ _ _ _ hz => ?_) (fun _ _ _ _ _ hz => by cases hz.1)
          obtain ⟨z1, z2, z3, z4, z5⟩ := hz
          cases z1
          replace z2 := z2.symm; replace z3 := z3.symm; replace z4 := z4.symm; replace z5 := z5.symm
          subst z2; subst z3; subst z4; subst z5
          exact Or.inl ⟨rfl, ex_rf⟩
          -- end
        · refine VW.nrm ?_
          exact absurd ⟨⟨by omega, by omega⟩, by omega, by omega⟩ h
theorem ratio_no2 (hC : ClW K P) (hp : P 1000 10 = some q) (hQ : QuW K P q) (hB : QuB I q) (ht : 1 ≤ I q 7 ∧ I q 0 < 12) (h : ¬ ((0 ≤ c ∧ c < quLast I q) ∧ 0 ≤ o ∧ o < quLast I q)) : Sp m_F_ratio true ({ frames := 12, cells := 1, slots := 6, locals := 400 } : Room) (ex K P J I (.inr eIOO)) K P J I [vR (some 1000), vI c, vI o, vI v] := by
  refine Sp.ofV (by decide) (Or.inl rfl) rfl ?_
  refine VW.aload_n (pc' := 1) d_F_ratio_0 rfl rfl ?_
  refine VW.gP (ci := 10) (T := T10) (N := 11) (k := 10) (k' := 10) (pc' := 4) d_F_ratio_1 rfl lk_F_66 in10 rfl rfl rfl rfl (by first | exact hC.k 0 rfl | exact hC.k 2 rfl | exact hC.k 3 rfl | exact hQ.k) (by first | exact hp | exact hC.p 0 rfl | exact hC.p 9 rfl | rfl) ?_
  refine VW.iconst (pc' := 5) d_F_ratio_4 rfl (by decide) ?_
  refine VW.cV (ci := 4) (T := T4) (N := 13) (pc' := 8) d_F_ratio_5 rfl mv_Query_takesOperator lk_F_238 rfl (by first | exact hC.k 0 rfl | exact hC.k 2 rfl | exact hC.k 3 rfl | exact hQ.k) rfl rfl rfl (by decide) (by decide) (tkY hQ ht) rfl rfl ?_
  refine VW.callSX (pc' := 11) d_F_ratio_8 rfl (sp_F_demandState1 (by decide)) rfl ms_F_demandState.1 ms_F_demandState.2.1 rfl ms_F_demandState.2.2 lk_F_82 rfl rfl rfl (by decide) (by decide) (fun _ _ _ _ _ hz => by cases hz.1) (fun r _ _ _ _ hz => ?_)
  obtain ⟨z1, z2, z3, z4, z5⟩ := hz
  cases z1
  replace z2 := z2.symm; replace z3 := z3.symm; replace z4 := z4.symm; replace z5 := z5.symm
  subst z2; subst z3; subst z4; subst z5
  refine VW.aload_n (pc' := 12) d_F_ratio_11 rfl rfl ?_
  refine VW.gP (ci := 10) (T := T10) (N := 11) (k := 10) (k' := 10) (pc' := 15) d_F_ratio_12 rfl lk_F_66 in10 rfl rfl rfl rfl (by first | exact hC.k 0 rfl | exact hC.k 2 rfl | exact hC.k 3 rfl | exact hQ.k) (by first | exact hp | exact hC.p 0 rfl | exact hC.p 9 rfl | rfl) ?_
  refine VW.cV (ci := 4) (T := T4) (N := 13) (pc' := 18) d_F_ratio_15 rfl mv_Query_lastWidth lk_F_241 rfl (by first | exact hC.k 0 rfl | exact hC.k 2 rfl | exact hC.k 3 rfl | exact hQ.k) rfl rfl rfl (by decide) (by decide) (sp_Query_lastWidth hQ hB) rfl rfl ?_
  refine VW.istore (pc' := 20) d_F_ratio_18 rfl rfl ?_
  refine VW.iload_n (pc' := 21) d_F_ratio_20 rfl rfl ?_
  refine VW.if_lt (tgt := 44) (pc' := 24) d_F_ratio_21 rfl rfl (fun c21 => ?_) (fun c21 => ?_)
  · refine VW.iconst (pc' := 45) d_F_ratio_44 rfl (by decide) ?_
    refine VW.callSX (pc' := 48) d_F_ratio_45 rfl (sp_F_demandPlace0) rfl ms_F_demandPlace.1 ms_F_demandPlace.2.1 rfl ms_F_demandPlace.2.2 lk_F_97 rfl rfl rfl (by decide) (by decide) (fun _ _ _ _ _ hz => ?_) (fun _ _ _ _ _ hz => by cases hz.1)
    obtain ⟨z1, z2, z3, z4, z5⟩ := hz
    cases z1
    replace z2 := z2.symm; replace z3 := z3.symm; replace z4 := z4.symm; replace z5 := z5.symm
    subst z2; subst z3; subst z4; subst z5
    exact Or.inl ⟨rfl, ex_rf⟩
    -- end
  · refine VW.iload_n (pc' := 25) d_F_ratio_24 rfl rfl ?_
    refine VW.iload (pc' := 27) d_F_ratio_25 rfl rfl ?_
    refine VW.icmp_ge (tgt := 44) (pc' := 30) d_F_ratio_27 rfl rfl (fun c27 => ?_) (fun c27 => ?_)
    · refine VW.iconst (pc' := 45) d_F_ratio_44 rfl (by decide) ?_
      refine VW.callSX (pc' := 48) d_F_ratio_45 rfl (sp_F_demandPlace0) rfl ms_F_demandPlace.1 ms_F_demandPlace.2.1 rfl ms_F_demandPlace.2.2 lk_F_97 rfl rfl rfl (by decide) (by decide) (fun _ _ _ _ _ hz => ?_) (fun _ _ _ _ _ hz => by cases hz.1)
      obtain ⟨z1, z2, z3, z4, z5⟩ := hz
      cases z1
      replace z2 := z2.symm; replace z3 := z3.symm; replace z4 := z4.symm; replace z5 := z5.symm
      subst z2; subst z3; subst z4; subst z5
      exact Or.inl ⟨rfl, ex_rf⟩
      -- end
    · refine VW.iload_n (pc' := 31) d_F_ratio_30 rfl rfl ?_
      refine VW.if_lt (tgt := 44) (pc' := 34) d_F_ratio_31 rfl rfl (fun c31 => ?_) (fun c31 => ?_)
      · refine VW.iconst (pc' := 45) d_F_ratio_44 rfl (by decide) ?_
        refine VW.callSX (pc' := 48) d_F_ratio_45 rfl (sp_F_demandPlace0) rfl ms_F_demandPlace.1 ms_F_demandPlace.2.1 rfl ms_F_demandPlace.2.2 lk_F_97 rfl rfl rfl (by decide) (by decide) (fun _ _ _ _ _ hz => ?_) (fun _ _ _ _ _ hz => by cases hz.1)
        obtain ⟨z1, z2, z3, z4, z5⟩ := hz
        cases z1
        replace z2 := z2.symm; replace z3 := z3.symm; replace z4 := z4.symm; replace z5 := z5.symm
        subst z2; subst z3; subst z4; subst z5
        exact Or.inl ⟨rfl, ex_rf⟩
        -- end
      · refine VW.iload_n (pc' := 35) d_F_ratio_34 rfl rfl ?_
        refine VW.iload (pc' := 37) d_F_ratio_35 rfl rfl ?_
        refine VW.icmp_ge (tgt := 44) (pc' := 40) d_F_ratio_37 rfl rfl (fun c37 => ?_) (fun c37 => ?_)
        · refine VW.iconst (pc' := 45) d_F_ratio_44 rfl (by decide) ?_
          refine VW.callSX (pc' := 48) d_F_ratio_45 rfl (sp_F_demandPlace0) rfl ms_F_demandPlace.1 ms_F_demandPlace.2.1 rfl ms_F_demandPlace.2.2 lk_F_97 rfl rfl rfl (by decide) (by decide) (fun _ _ _ _ _ hz => ?_) (fun _ _ _ _ _ hz => by cases hz.1)
          obtain ⟨z1, z2, z3, z4, z5⟩ := hz
          cases z1
          replace z2 := z2.symm; replace z3 := z3.symm; replace z4 := z4.symm; replace z5 := z5.symm
          subst z2; subst z3; subst z4; subst z5
          exact Or.inl ⟨rfl, ex_rf⟩
          -- end
        · refine VW.nrm ?_
          exact absurd ⟨⟨by omega, by omega⟩, by omega, by omega⟩ h
theorem filterColumns_no3 (hC : ClW K P) (hp : P 1000 10 = some q) (hQ : QuW K P q) (hB : QuB I q) (ht : 1 ≤ I q 7 ∧ I q 0 < 12) (hc : 0 ≤ c ∧ c < quLast I q) (ho : 0 ≤ o ∧ o < quLast I q) (h : ¬ (0 ≤ w ∧ w ≤ 2)) : Sp m_F_filterColumns true ({ frames := 12, cells := 1, slots := 6, locals := 400 } : Room) (ex K P J I (.inr eIAE)) K P J I [vR (some 1000), vI c, vI w, vI o, vI nt] := by
  refine Sp.ofV (by decide) (Or.inl rfl) rfl ?_
  refine VW.aload_n (pc' := 1) d_F_filterColumns_0 rfl rfl ?_
  refine VW.gP (ci := 10) (T := T10) (N := 11) (k := 10) (k' := 10) (pc' := 4) d_F_filterColumns_1 rfl lk_F_66 in10 rfl rfl rfl rfl (by first | exact hC.k 0 rfl | exact hC.k 2 rfl | exact hC.k 3 rfl | exact hQ.k) (by first | exact hp | exact hC.p 0 rfl | exact hC.p 9 rfl | rfl) ?_
  refine VW.iconst (pc' := 5) d_F_filterColumns_4 rfl (by decide) ?_
  refine VW.cV (ci := 4) (T := T4) (N := 13) (pc' := 8) d_F_filterColumns_5 rfl mv_Query_takesOperator lk_F_238 rfl (by first | exact hC.k 0 rfl | exact hC.k 2 rfl | exact hC.k 3 rfl | exact hQ.k) rfl rfl rfl (by decide) (by decide) (tkY hQ ht) rfl rfl ?_
  refine VW.callSX (pc' := 11) d_F_filterColumns_8 rfl (sp_F_demandState1 (by decide)) rfl ms_F_demandState.1 ms_F_demandState.2.1 rfl ms_F_demandState.2.2 lk_F_82 rfl rfl rfl (by decide) (by decide) (fun _ _ _ _ _ hz => by cases hz.1) (fun r _ _ _ _ hz => ?_)
  obtain ⟨z1, z2, z3, z4, z5⟩ := hz
  cases z1
  replace z2 := z2.symm; replace z3 := z3.symm; replace z4 := z4.symm; replace z5 := z5.symm
  subst z2; subst z3; subst z4; subst z5
  refine VW.aload_n (pc' := 12) d_F_filterColumns_11 rfl rfl ?_
  refine VW.gP (ci := 10) (T := T10) (N := 11) (k := 10) (k' := 10) (pc' := 15) d_F_filterColumns_12 rfl lk_F_66 in10 rfl rfl rfl rfl (by first | exact hC.k 0 rfl | exact hC.k 2 rfl | exact hC.k 3 rfl | exact hQ.k) (by first | exact hp | exact hC.p 0 rfl | exact hC.p 9 rfl | rfl) ?_
  refine VW.cV (ci := 4) (T := T4) (N := 13) (pc' := 18) d_F_filterColumns_15 rfl mv_Query_lastWidth lk_F_241 rfl (by first | exact hC.k 0 rfl | exact hC.k 2 rfl | exact hC.k 3 rfl | exact hQ.k) rfl rfl rfl (by decide) (by decide) (sp_Query_lastWidth hQ hB) rfl rfl ?_
  refine VW.istore (pc' := 20) d_F_filterColumns_18 rfl rfl ?_
  refine VW.iload_n (pc' := 21) d_F_filterColumns_20 rfl rfl ?_
  refine VW.if_lt (tgt := 44) (pc' := 24) d_F_filterColumns_21 rfl rfl (fun c21 => ?_) (fun c21 => ?_)
  case refine_1 => exact absurd c21 (by omega)
  refine VW.iload_n (pc' := 25) d_F_filterColumns_24 rfl rfl ?_
  refine VW.iload (pc' := 27) d_F_filterColumns_25 rfl rfl ?_
  refine VW.icmp_ge (tgt := 44) (pc' := 30) d_F_filterColumns_27 rfl rfl (fun c27 => ?_) (fun c27 => ?_)
  case refine_1 => exact absurd c27 (by omega)
  refine VW.iload_n (pc' := 31) d_F_filterColumns_30 rfl rfl ?_
  refine VW.if_lt (tgt := 44) (pc' := 34) d_F_filterColumns_31 rfl rfl (fun c31 => ?_) (fun c31 => ?_)
  case refine_1 => exact absurd c31 (by omega)
  refine VW.iload_n (pc' := 35) d_F_filterColumns_34 rfl rfl ?_
  refine VW.iload (pc' := 37) d_F_filterColumns_35 rfl rfl ?_
  refine VW.icmp_ge (tgt := 44) (pc' := 40) d_F_filterColumns_37 rfl rfl (fun c37 => ?_) (fun c37 => ?_)
  case refine_1 => exact absurd c37 (by omega)
  refine VW.iconst (pc' := 41) d_F_filterColumns_40 rfl (by decide) ?_
  refine VW.goto (pc' := 45) d_F_filterColumns_41 rfl ?_
  refine VW.callSX (pc' := 48) d_F_filterColumns_45 rfl (sp_F_demandPlace1 (by decide)) rfl ms_F_demandPlace.1 ms_F_demandPlace.2.1 rfl ms_F_demandPlace.2.2 lk_F_97 rfl rfl rfl (by decide) (by decide) (fun _ _ _ _ _ hz => by cases hz.1) (fun r _ _ _ _ hz => ?_)
  obtain ⟨z1, z2, z3, z4, z5⟩ := hz
  cases z1
  replace z2 := z2.symm; replace z3 := z3.symm; replace z4 := z4.symm; replace z5 := z5.symm
  subst z2; subst z3; subst z4; subst z5
  refine VW.iload_n (pc' := 49) d_F_filterColumns_48 rfl rfl ?_
  refine VW.cS (pc' := 52) d_F_filterColumns_49 rfl ms_F_isComparison lk_F_100 rfl rfl rfl (by decide) (by decide) (F_isCmp0 h) rfl rfl ?_
  refine VW.callSX (pc' := 55) d_F_filterColumns_52 rfl (sp_F_demandRange0) rfl ms_F_demandRange.1 ms_F_demandRange.2.1 rfl ms_F_demandRange.2.2 lk_F_70 rfl rfl rfl (by decide) (by decide) (fun _ _ _ _ _ hz => ?_) (fun _ _ _ _ _ hz => by cases hz.1)
  obtain ⟨z1, z2, z3, z4, z5⟩ := hz
  cases z1
  replace z2 := z2.symm; replace z3 := z3.symm; replace z4 := z4.symm; replace z5 := z5.symm
  subst z2; subst z3; subst z4; subst z5
  exact Or.inl ⟨rfl, ex_rf⟩
  -- end
theorem ratio_no3 (hC : ClW K P) (hp : P 1000 10 = some q) (hQ : QuW K P q) (hB : QuB I q) (ht : 1 ≤ I q 7 ∧ I q 0 < 12) (hc : 0 ≤ c ∧ c < quLast I q) (ho : 0 ≤ o ∧ o < quLast I q) (h : ¬ (-1000 ≤ v ∧ v ≤ 1000)) : Sp m_F_ratio true ({ frames := 12, cells := 1, slots := 6, locals := 400 } : Room) (ex K P J I (.inr eIAE)) K P J I [vR (some 1000), vI c, vI o, vI v] := by
  refine Sp.ofV (by decide) (Or.inl rfl) rfl ?_
  refine VW.aload_n (pc' := 1) d_F_ratio_0 rfl rfl ?_
  refine VW.gP (ci := 10) (T := T10) (N := 11) (k := 10) (k' := 10) (pc' := 4) d_F_ratio_1 rfl lk_F_66 in10 rfl rfl rfl rfl (by first | exact hC.k 0 rfl | exact hC.k 2 rfl | exact hC.k 3 rfl | exact hQ.k) (by first | exact hp | exact hC.p 0 rfl | exact hC.p 9 rfl | rfl) ?_
  refine VW.iconst (pc' := 5) d_F_ratio_4 rfl (by decide) ?_
  refine VW.cV (ci := 4) (T := T4) (N := 13) (pc' := 8) d_F_ratio_5 rfl mv_Query_takesOperator lk_F_238 rfl (by first | exact hC.k 0 rfl | exact hC.k 2 rfl | exact hC.k 3 rfl | exact hQ.k) rfl rfl rfl (by decide) (by decide) (tkY hQ ht) rfl rfl ?_
  refine VW.callSX (pc' := 11) d_F_ratio_8 rfl (sp_F_demandState1 (by decide)) rfl ms_F_demandState.1 ms_F_demandState.2.1 rfl ms_F_demandState.2.2 lk_F_82 rfl rfl rfl (by decide) (by decide) (fun _ _ _ _ _ hz => by cases hz.1) (fun r _ _ _ _ hz => ?_)
  obtain ⟨z1, z2, z3, z4, z5⟩ := hz
  cases z1
  replace z2 := z2.symm; replace z3 := z3.symm; replace z4 := z4.symm; replace z5 := z5.symm
  subst z2; subst z3; subst z4; subst z5
  refine VW.aload_n (pc' := 12) d_F_ratio_11 rfl rfl ?_
  refine VW.gP (ci := 10) (T := T10) (N := 11) (k := 10) (k' := 10) (pc' := 15) d_F_ratio_12 rfl lk_F_66 in10 rfl rfl rfl rfl (by first | exact hC.k 0 rfl | exact hC.k 2 rfl | exact hC.k 3 rfl | exact hQ.k) (by first | exact hp | exact hC.p 0 rfl | exact hC.p 9 rfl | rfl) ?_
  refine VW.cV (ci := 4) (T := T4) (N := 13) (pc' := 18) d_F_ratio_15 rfl mv_Query_lastWidth lk_F_241 rfl (by first | exact hC.k 0 rfl | exact hC.k 2 rfl | exact hC.k 3 rfl | exact hQ.k) rfl rfl rfl (by decide) (by decide) (sp_Query_lastWidth hQ hB) rfl rfl ?_
  refine VW.istore (pc' := 20) d_F_ratio_18 rfl rfl ?_
  refine VW.iload_n (pc' := 21) d_F_ratio_20 rfl rfl ?_
  refine VW.if_lt (tgt := 44) (pc' := 24) d_F_ratio_21 rfl rfl (fun c21 => ?_) (fun c21 => ?_)
  case refine_1 => exact absurd c21 (by omega)
  refine VW.iload_n (pc' := 25) d_F_ratio_24 rfl rfl ?_
  refine VW.iload (pc' := 27) d_F_ratio_25 rfl rfl ?_
  refine VW.icmp_ge (tgt := 44) (pc' := 30) d_F_ratio_27 rfl rfl (fun c27 => ?_) (fun c27 => ?_)
  case refine_1 => exact absurd c27 (by omega)
  refine VW.iload_n (pc' := 31) d_F_ratio_30 rfl rfl ?_
  refine VW.if_lt (tgt := 44) (pc' := 34) d_F_ratio_31 rfl rfl (fun c31 => ?_) (fun c31 => ?_)
  case refine_1 => exact absurd c31 (by omega)
  refine VW.iload_n (pc' := 35) d_F_ratio_34 rfl rfl ?_
  refine VW.iload (pc' := 37) d_F_ratio_35 rfl rfl ?_
  refine VW.icmp_ge (tgt := 44) (pc' := 40) d_F_ratio_37 rfl rfl (fun c37 => ?_) (fun c37 => ?_)
  case refine_1 => exact absurd c37 (by omega)
  refine VW.iconst (pc' := 41) d_F_ratio_40 rfl (by decide) ?_
  refine VW.goto (pc' := 45) d_F_ratio_41 rfl ?_
  refine VW.callSX (pc' := 48) d_F_ratio_45 rfl (sp_F_demandPlace1 (by decide)) rfl ms_F_demandPlace.1 ms_F_demandPlace.2.1 rfl ms_F_demandPlace.2.2 lk_F_97 rfl rfl rfl (by decide) (by decide) (fun _ _ _ _ _ hz => by cases hz.1) (fun r _ _ _ _ hz => ?_)
  obtain ⟨z1, z2, z3, z4, z5⟩ := hz
  cases z1
  replace z2 := z2.symm; replace z3 := z3.symm; replace z4 := z4.symm; replace z5 := z5.symm
  subst z2; subst z3; subst z4; subst z5
  refine VW.iload_n (pc' := 49) d_F_ratio_48 rfl rfl ?_
  refine VW.cS (pc' := 52) d_F_ratio_49 rfl ms_F_isNumber lk_F_104 rfl rfl rfl (by decide) (by decide) (F_isNum0 h) rfl rfl ?_
  refine VW.callSX (pc' := 55) d_F_ratio_52 rfl (sp_F_demandRange0) rfl ms_F_demandRange.1 ms_F_demandRange.2.1 rfl ms_F_demandRange.2.2 lk_F_70 rfl rfl rfl (by decide) (by decide) (fun _ _ _ _ _ hz => ?_) (fun _ _ _ _ _ hz => by cases hz.1)
  obtain ⟨z1, z2, z3, z4, z5⟩ := hz
  cases z1
  replace z2 := z2.symm; replace z3 := z3.symm; replace z4 := z4.symm; replace z5 := z5.symm
  subst z2; subst z3; subst z4; subst z5
  exact Or.inl ⟨rfl, ex_rf⟩
  -- end
theorem filterColumns_run (hC : ClW K P) (hp : P 1000 10 = some q) (hQ : QuW K P q) (hB : QuB I q) (ht : 1 ≤ I q 7 ∧ I q 0 < 12) (hc : 0 ≤ c ∧ c < quLast I q) (ho : 0 ≤ o ∧ o < quLast I q) (h0 : 0 ≤ I q 0) (h7 : I q 7 ≤ 6) (hw : 0 ≤ w ∧ w ≤ 2) (hz : nt = 0 ∨ nt = 1) : Sp m_F_filterColumns true ({ frames := 12, cells := 0, slots := 0, locals := 400 } : Room) (ex K P J (quOne I q 2 (quLast I q) c w o nt) (.inl (some (vI (quOne I q 2 (quLast I q) c w o nt q 7))))) K P J I [vR (some 1000), vI c, vI w, vI o, vI nt] := by
  rcases hz with rfl | rfl
  all_goals refine Sp.ofV (by decide) (Or.inl rfl) rfl ?_
  · refine VW.aload_n (pc' := 1) d_F_filterColumns_0 rfl rfl ?_
    refine VW.gP (ci := 10) (T := T10) (N := 11) (k := 10) (k' := 10) (pc' := 4) d_F_filterColumns_1 rfl lk_F_66 in10 rfl rfl rfl rfl (by first | exact hC.k 0 rfl | exact hC.k 2 rfl | exact hC.k 3 rfl | exact hQ.k) (by first | exact hp | exact hC.p 0 rfl | exact hC.p 9 rfl | rfl) ?_
    refine VW.iconst (pc' := 5) d_F_filterColumns_4 rfl (by decide) ?_
    refine VW.cV (ci := 4) (T := T4) (N := 13) (pc' := 8) d_F_filterColumns_5 rfl mv_Query_takesOperator lk_F_238 rfl (by first | exact hC.k 0 rfl | exact hC.k 2 rfl | exact hC.k 3 rfl | exact hQ.k) rfl rfl rfl (by decide) (by decide) (tkY hQ ht) rfl rfl ?_
    refine VW.callSX (pc' := 11) d_F_filterColumns_8 rfl (sp_F_demandState1 (by decide)) rfl ms_F_demandState.1 ms_F_demandState.2.1 rfl ms_F_demandState.2.2 lk_F_82 rfl rfl rfl (by decide) (by decide) (fun _ _ _ _ _ hz => by cases hz.1) (fun r _ _ _ _ hz => ?_)
    obtain ⟨z1, z2, z3, z4, z5⟩ := hz
    cases z1
    replace z2 := z2.symm; replace z3 := z3.symm; replace z4 := z4.symm; replace z5 := z5.symm
    subst z2; subst z3; subst z4; subst z5
    refine VW.aload_n (pc' := 12) d_F_filterColumns_11 rfl rfl ?_
    refine VW.gP (ci := 10) (T := T10) (N := 11) (k := 10) (k' := 10) (pc' := 15) d_F_filterColumns_12 rfl lk_F_66 in10 rfl rfl rfl rfl (by first | exact hC.k 0 rfl | exact hC.k 2 rfl | exact hC.k 3 rfl | exact hQ.k) (by first | exact hp | exact hC.p 0 rfl | exact hC.p 9 rfl | rfl) ?_
    refine VW.cV (ci := 4) (T := T4) (N := 13) (pc' := 18) d_F_filterColumns_15 rfl mv_Query_lastWidth lk_F_241 rfl (by first | exact hC.k 0 rfl | exact hC.k 2 rfl | exact hC.k 3 rfl | exact hQ.k) rfl rfl rfl (by decide) (by decide) (sp_Query_lastWidth hQ hB) rfl rfl ?_
    refine VW.istore (pc' := 20) d_F_filterColumns_18 rfl rfl ?_
    refine VW.iload_n (pc' := 21) d_F_filterColumns_20 rfl rfl ?_
    refine VW.if_lt (tgt := 44) (pc' := 24) d_F_filterColumns_21 rfl rfl (fun c21 => ?_) (fun c21 => ?_)
    case refine_1 => exact absurd c21 (by omega)
    refine VW.iload_n (pc' := 25) d_F_filterColumns_24 rfl rfl ?_
    refine VW.iload (pc' := 27) d_F_filterColumns_25 rfl rfl ?_
    refine VW.icmp_ge (tgt := 44) (pc' := 30) d_F_filterColumns_27 rfl rfl (fun c27 => ?_) (fun c27 => ?_)
    case refine_1 => exact absurd c27 (by omega)
    refine VW.iload_n (pc' := 31) d_F_filterColumns_30 rfl rfl ?_
    refine VW.if_lt (tgt := 44) (pc' := 34) d_F_filterColumns_31 rfl rfl (fun c31 => ?_) (fun c31 => ?_)
    case refine_1 => exact absurd c31 (by omega)
    refine VW.iload_n (pc' := 35) d_F_filterColumns_34 rfl rfl ?_
    refine VW.iload (pc' := 37) d_F_filterColumns_35 rfl rfl ?_
    refine VW.icmp_ge (tgt := 44) (pc' := 40) d_F_filterColumns_37 rfl rfl (fun c37 => ?_) (fun c37 => ?_)
    case refine_1 => exact absurd c37 (by omega)
    refine VW.iconst (pc' := 41) d_F_filterColumns_40 rfl (by decide) ?_
    refine VW.goto (pc' := 45) d_F_filterColumns_41 rfl ?_
    refine VW.callSX (pc' := 48) d_F_filterColumns_45 rfl (sp_F_demandPlace1 (by decide)) rfl ms_F_demandPlace.1 ms_F_demandPlace.2.1 rfl ms_F_demandPlace.2.2 lk_F_97 rfl rfl rfl (by decide) (by decide) (fun _ _ _ _ _ hz => by cases hz.1) (fun r _ _ _ _ hz => ?_)
    obtain ⟨z1, z2, z3, z4, z5⟩ := hz
    cases z1
    replace z2 := z2.symm; replace z3 := z3.symm; replace z4 := z4.symm; replace z5 := z5.symm
    subst z2; subst z3; subst z4; subst z5
    refine VW.iload_n (pc' := 49) d_F_filterColumns_48 rfl rfl ?_
    refine VW.cS (pc' := 52) d_F_filterColumns_49 rfl ms_F_isComparison lk_F_100 rfl rfl rfl (by decide) (by decide) (F_isCmp1 hw) rfl rfl ?_
    refine VW.callSX (pc' := 55) d_F_filterColumns_52 rfl (sp_F_demandRange1 (by decide)) rfl ms_F_demandRange.1 ms_F_demandRange.2.1 rfl ms_F_demandRange.2.2 lk_F_70 rfl rfl rfl (by decide) (by decide) (fun _ _ _ _ _ hz => by cases hz.1) (fun r _ _ _ _ hz => ?_)
    obtain ⟨z1, z2, z3, z4, z5⟩ := hz
    cases z1
    replace z2 := z2.symm; replace z3 := z3.symm; replace z4 := z4.symm; replace z5 := z5.symm
    subst z2; subst z3; subst z4; subst z5
    refine VW.aload_n (pc' := 56) d_F_filterColumns_55 rfl rfl ?_
    refine VW.gP (ci := 10) (T := T10) (N := 11) (k := 10) (k' := 10) (pc' := 59) d_F_filterColumns_56 rfl lk_F_66 in10 rfl rfl rfl rfl (by first | exact hC.k 0 rfl | exact hC.k 2 rfl | exact hC.k 3 rfl | exact hQ.k) (by first | exact hp | exact hC.p 0 rfl | exact hC.p 9 rfl | rfl) ?_
    refine VW.iconst (pc' := 60) d_F_filterColumns_59 rfl (by decide) ?_
    refine VW.iload (pc' := 62) d_F_filterColumns_60 rfl rfl ?_
    refine VW.iload_n (pc' := 63) d_F_filterColumns_62 rfl rfl ?_
    refine VW.iload_n (pc' := 64) d_F_filterColumns_63 rfl rfl ?_
    refine VW.iload_n (pc' := 65) d_F_filterColumns_64 rfl rfl ?_
    refine VW.iload (pc' := 67) d_F_filterColumns_65 rfl rfl ?_
    refine VW.if_eq (tgt := 74) (pc' := 70) d_F_filterColumns_67 rfl rfl (fun c67 => ?_) (fun c67 => ?_)
    case refine_2 => exact absurd c67 (fun z => z rfl)
    refine VW.iconst (pc' := 75) d_F_filterColumns_74 rfl (by decide) ?_
    refine VW.cV (ci := 4) (T := T4) (N := 13) (pc' := 78) d_F_filterColumns_75 rfl mv_Query_putOnLast lk_F_244 rfl (by first | exact hC.k 0 rfl | exact hC.k 2 rfl | exact hC.k 3 rfl | exact hQ.k) rfl rfl rfl (by decide) (by decide) (sp_Query_putOnLast hQ ⟨h0, ht.2⟩ ⟨ht.1, h7⟩) rfl rfl ?_
    refine VW.aload_n (pc' := 79) d_F_filterColumns_78 rfl rfl ?_
    refine VW.gP (ci := 10) (T := T10) (N := 11) (k := 10) (k' := 10) (pc' := 82) d_F_filterColumns_79 rfl lk_F_66 in10 rfl rfl rfl rfl (by first | exact hC.k 0 rfl | exact hC.k 2 rfl | exact hC.k 3 rfl | exact hQ.k) (by first | exact hp | exact hC.p 0 rfl | exact hC.p 9 rfl | rfl) ?_
    refine VW.gI (ci := 4) (T := T4) (N := 13) (k := 7) (k' := 7) (pc' := 85) d_F_filterColumns_82 rfl lk_F_228 in4 rfl rfl rfl rfl (by first | exact hC.k 0 rfl | exact hC.k 2 rfl | exact hC.k 3 rfl | exact hQ.k) (by first | exact hp | exact hC.p 0 rfl | exact hC.p 9 rfl | rfl) ?_
    exact VW.iret d_F_filterColumns_85 rfl rfl (by decide) (by decide) ex_rf
  · refine VW.aload_n (pc' := 1) d_F_filterColumns_0 rfl rfl ?_
    refine VW.gP (ci := 10) (T := T10) (N := 11) (k := 10) (k' := 10) (pc' := 4) d_F_filterColumns_1 rfl lk_F_66 in10 rfl rfl rfl rfl (by first | exact hC.k 0 rfl | exact hC.k 2 rfl | exact hC.k 3 rfl | exact hQ.k) (by first | exact hp | exact hC.p 0 rfl | exact hC.p 9 rfl | rfl) ?_
    refine VW.iconst (pc' := 5) d_F_filterColumns_4 rfl (by decide) ?_
    refine VW.cV (ci := 4) (T := T4) (N := 13) (pc' := 8) d_F_filterColumns_5 rfl mv_Query_takesOperator lk_F_238 rfl (by first | exact hC.k 0 rfl | exact hC.k 2 rfl | exact hC.k 3 rfl | exact hQ.k) rfl rfl rfl (by decide) (by decide) (tkY hQ ht) rfl rfl ?_
    refine VW.callSX (pc' := 11) d_F_filterColumns_8 rfl (sp_F_demandState1 (by decide)) rfl ms_F_demandState.1 ms_F_demandState.2.1 rfl ms_F_demandState.2.2 lk_F_82 rfl rfl rfl (by decide) (by decide) (fun _ _ _ _ _ hz => by cases hz.1) (fun r _ _ _ _ hz => ?_)
    obtain ⟨z1, z2, z3, z4, z5⟩ := hz
    cases z1
    replace z2 := z2.symm; replace z3 := z3.symm; replace z4 := z4.symm; replace z5 := z5.symm
    subst z2; subst z3; subst z4; subst z5
    refine VW.aload_n (pc' := 12) d_F_filterColumns_11 rfl rfl ?_
    refine VW.gP (ci := 10) (T := T10) (N := 11) (k := 10) (k' := 10) (pc' := 15) d_F_filterColumns_12 rfl lk_F_66 in10 rfl rfl rfl rfl (by first | exact hC.k 0 rfl | exact hC.k 2 rfl | exact hC.k 3 rfl | exact hQ.k) (by first | exact hp | exact hC.p 0 rfl | exact hC.p 9 rfl | rfl) ?_
    refine VW.cV (ci := 4) (T := T4) (N := 13) (pc' := 18) d_F_filterColumns_15 rfl mv_Query_lastWidth lk_F_241 rfl (by first | exact hC.k 0 rfl | exact hC.k 2 rfl | exact hC.k 3 rfl | exact hQ.k) rfl rfl rfl (by decide) (by decide) (sp_Query_lastWidth hQ hB) rfl rfl ?_
    refine VW.istore (pc' := 20) d_F_filterColumns_18 rfl rfl ?_
    refine VW.iload_n (pc' := 21) d_F_filterColumns_20 rfl rfl ?_
    refine VW.if_lt (tgt := 44) (pc' := 24) d_F_filterColumns_21 rfl rfl (fun c21 => ?_) (fun c21 => ?_)
    case refine_1 => exact absurd c21 (by omega)
    refine VW.iload_n (pc' := 25) d_F_filterColumns_24 rfl rfl ?_
    refine VW.iload (pc' := 27) d_F_filterColumns_25 rfl rfl ?_
    refine VW.icmp_ge (tgt := 44) (pc' := 30) d_F_filterColumns_27 rfl rfl (fun c27 => ?_) (fun c27 => ?_)
    case refine_1 => exact absurd c27 (by omega)
    refine VW.iload_n (pc' := 31) d_F_filterColumns_30 rfl rfl ?_
    refine VW.if_lt (tgt := 44) (pc' := 34) d_F_filterColumns_31 rfl rfl (fun c31 => ?_) (fun c31 => ?_)
    case refine_1 => exact absurd c31 (by omega)
    refine VW.iload_n (pc' := 35) d_F_filterColumns_34 rfl rfl ?_
    refine VW.iload (pc' := 37) d_F_filterColumns_35 rfl rfl ?_
    refine VW.icmp_ge (tgt := 44) (pc' := 40) d_F_filterColumns_37 rfl rfl (fun c37 => ?_) (fun c37 => ?_)
    case refine_1 => exact absurd c37 (by omega)
    refine VW.iconst (pc' := 41) d_F_filterColumns_40 rfl (by decide) ?_
    refine VW.goto (pc' := 45) d_F_filterColumns_41 rfl ?_
    refine VW.callSX (pc' := 48) d_F_filterColumns_45 rfl (sp_F_demandPlace1 (by decide)) rfl ms_F_demandPlace.1 ms_F_demandPlace.2.1 rfl ms_F_demandPlace.2.2 lk_F_97 rfl rfl rfl (by decide) (by decide) (fun _ _ _ _ _ hz => by cases hz.1) (fun r _ _ _ _ hz => ?_)
    obtain ⟨z1, z2, z3, z4, z5⟩ := hz
    cases z1
    replace z2 := z2.symm; replace z3 := z3.symm; replace z4 := z4.symm; replace z5 := z5.symm
    subst z2; subst z3; subst z4; subst z5
    refine VW.iload_n (pc' := 49) d_F_filterColumns_48 rfl rfl ?_
    refine VW.cS (pc' := 52) d_F_filterColumns_49 rfl ms_F_isComparison lk_F_100 rfl rfl rfl (by decide) (by decide) (F_isCmp1 hw) rfl rfl ?_
    refine VW.callSX (pc' := 55) d_F_filterColumns_52 rfl (sp_F_demandRange1 (by decide)) rfl ms_F_demandRange.1 ms_F_demandRange.2.1 rfl ms_F_demandRange.2.2 lk_F_70 rfl rfl rfl (by decide) (by decide) (fun _ _ _ _ _ hz => by cases hz.1) (fun r _ _ _ _ hz => ?_)
    obtain ⟨z1, z2, z3, z4, z5⟩ := hz
    cases z1
    replace z2 := z2.symm; replace z3 := z3.symm; replace z4 := z4.symm; replace z5 := z5.symm
    subst z2; subst z3; subst z4; subst z5
    refine VW.aload_n (pc' := 56) d_F_filterColumns_55 rfl rfl ?_
    refine VW.gP (ci := 10) (T := T10) (N := 11) (k := 10) (k' := 10) (pc' := 59) d_F_filterColumns_56 rfl lk_F_66 in10 rfl rfl rfl rfl (by first | exact hC.k 0 rfl | exact hC.k 2 rfl | exact hC.k 3 rfl | exact hQ.k) (by first | exact hp | exact hC.p 0 rfl | exact hC.p 9 rfl | rfl) ?_
    refine VW.iconst (pc' := 60) d_F_filterColumns_59 rfl (by decide) ?_
    refine VW.iload (pc' := 62) d_F_filterColumns_60 rfl rfl ?_
    refine VW.iload_n (pc' := 63) d_F_filterColumns_62 rfl rfl ?_
    refine VW.iload_n (pc' := 64) d_F_filterColumns_63 rfl rfl ?_
    refine VW.iload_n (pc' := 65) d_F_filterColumns_64 rfl rfl ?_
    refine VW.iload (pc' := 67) d_F_filterColumns_65 rfl rfl ?_
    refine VW.if_eq (tgt := 74) (pc' := 70) d_F_filterColumns_67 rfl rfl (fun c67 => ?_) (fun c67 => ?_)
    case refine_1 => exact absurd c67 (by decide)
    refine VW.iconst (pc' := 71) d_F_filterColumns_70 rfl (by decide) ?_
    refine VW.goto (pc' := 75) d_F_filterColumns_71 rfl ?_
    refine VW.cV (ci := 4) (T := T4) (N := 13) (pc' := 78) d_F_filterColumns_75 rfl mv_Query_putOnLast lk_F_244 rfl (by first | exact hC.k 0 rfl | exact hC.k 2 rfl | exact hC.k 3 rfl | exact hQ.k) rfl rfl rfl (by decide) (by decide) (sp_Query_putOnLast hQ ⟨h0, ht.2⟩ ⟨ht.1, h7⟩) rfl rfl ?_
    refine VW.aload_n (pc' := 79) d_F_filterColumns_78 rfl rfl ?_
    refine VW.gP (ci := 10) (T := T10) (N := 11) (k := 10) (k' := 10) (pc' := 82) d_F_filterColumns_79 rfl lk_F_66 in10 rfl rfl rfl rfl (by first | exact hC.k 0 rfl | exact hC.k 2 rfl | exact hC.k 3 rfl | exact hQ.k) (by first | exact hp | exact hC.p 0 rfl | exact hC.p 9 rfl | rfl) ?_
    refine VW.gI (ci := 4) (T := T4) (N := 13) (k := 7) (k' := 7) (pc' := 85) d_F_filterColumns_82 rfl lk_F_228 in4 rfl rfl rfl rfl (by first | exact hC.k 0 rfl | exact hC.k 2 rfl | exact hC.k 3 rfl | exact hQ.k) (by first | exact hp | exact hC.p 0 rfl | exact hC.p 9 rfl | rfl) ?_
    exact VW.iret d_F_filterColumns_85 rfl rfl (by decide) (by decide) ex_rf
theorem ratio_run (hC : ClW K P) (hp : P 1000 10 = some q) (hQ : QuW K P q) (hB : QuB I q) (ht : 1 ≤ I q 7 ∧ I q 0 < 12) (hc : 0 ≤ c ∧ c < quLast I q) (ho : 0 ≤ o ∧ o < quLast I q) (h0 : 0 ≤ I q 0) (h7 : I q 7 ≤ 6) (hv : -1000 ≤ v ∧ v ≤ 1000) : Sp m_F_ratio true ({ frames := 12, cells := 0, slots := 0, locals := 400 } : Room) (ex K P J (quOne I q 3 (quLast I q) c o v 0) (.inl (some (vI (quOne I q 3 (quLast I q) c o v 0 q 7))))) K P J I [vR (some 1000), vI c, vI o, vI v] := by
  refine Sp.ofV (by decide) (Or.inl rfl) rfl ?_
  refine VW.aload_n (pc' := 1) d_F_ratio_0 rfl rfl ?_
  refine VW.gP (ci := 10) (T := T10) (N := 11) (k := 10) (k' := 10) (pc' := 4) d_F_ratio_1 rfl lk_F_66 in10 rfl rfl rfl rfl (by first | exact hC.k 0 rfl | exact hC.k 2 rfl | exact hC.k 3 rfl | exact hQ.k) (by first | exact hp | exact hC.p 0 rfl | exact hC.p 9 rfl | rfl) ?_
  refine VW.iconst (pc' := 5) d_F_ratio_4 rfl (by decide) ?_
  refine VW.cV (ci := 4) (T := T4) (N := 13) (pc' := 8) d_F_ratio_5 rfl mv_Query_takesOperator lk_F_238 rfl (by first | exact hC.k 0 rfl | exact hC.k 2 rfl | exact hC.k 3 rfl | exact hQ.k) rfl rfl rfl (by decide) (by decide) (tkY hQ ht) rfl rfl ?_
  refine VW.callSX (pc' := 11) d_F_ratio_8 rfl (sp_F_demandState1 (by decide)) rfl ms_F_demandState.1 ms_F_demandState.2.1 rfl ms_F_demandState.2.2 lk_F_82 rfl rfl rfl (by decide) (by decide) (fun _ _ _ _ _ hz => by cases hz.1) (fun r _ _ _ _ hz => ?_)
  obtain ⟨z1, z2, z3, z4, z5⟩ := hz
  cases z1
  replace z2 := z2.symm; replace z3 := z3.symm; replace z4 := z4.symm; replace z5 := z5.symm
  subst z2; subst z3; subst z4; subst z5
  refine VW.aload_n (pc' := 12) d_F_ratio_11 rfl rfl ?_
  refine VW.gP (ci := 10) (T := T10) (N := 11) (k := 10) (k' := 10) (pc' := 15) d_F_ratio_12 rfl lk_F_66 in10 rfl rfl rfl rfl (by first | exact hC.k 0 rfl | exact hC.k 2 rfl | exact hC.k 3 rfl | exact hQ.k) (by first | exact hp | exact hC.p 0 rfl | exact hC.p 9 rfl | rfl) ?_
  refine VW.cV (ci := 4) (T := T4) (N := 13) (pc' := 18) d_F_ratio_15 rfl mv_Query_lastWidth lk_F_241 rfl (by first | exact hC.k 0 rfl | exact hC.k 2 rfl | exact hC.k 3 rfl | exact hQ.k) rfl rfl rfl (by decide) (by decide) (sp_Query_lastWidth hQ hB) rfl rfl ?_
  refine VW.istore (pc' := 20) d_F_ratio_18 rfl rfl ?_
  refine VW.iload_n (pc' := 21) d_F_ratio_20 rfl rfl ?_
  refine VW.if_lt (tgt := 44) (pc' := 24) d_F_ratio_21 rfl rfl (fun c21 => ?_) (fun c21 => ?_)
  case refine_1 => exact absurd c21 (by omega)
  refine VW.iload_n (pc' := 25) d_F_ratio_24 rfl rfl ?_
  refine VW.iload (pc' := 27) d_F_ratio_25 rfl rfl ?_
  refine VW.icmp_ge (tgt := 44) (pc' := 30) d_F_ratio_27 rfl rfl (fun c27 => ?_) (fun c27 => ?_)
  case refine_1 => exact absurd c27 (by omega)
  refine VW.iload_n (pc' := 31) d_F_ratio_30 rfl rfl ?_
  refine VW.if_lt (tgt := 44) (pc' := 34) d_F_ratio_31 rfl rfl (fun c31 => ?_) (fun c31 => ?_)
  case refine_1 => exact absurd c31 (by omega)
  refine VW.iload_n (pc' := 35) d_F_ratio_34 rfl rfl ?_
  refine VW.iload (pc' := 37) d_F_ratio_35 rfl rfl ?_
  refine VW.icmp_ge (tgt := 44) (pc' := 40) d_F_ratio_37 rfl rfl (fun c37 => ?_) (fun c37 => ?_)
  case refine_1 => exact absurd c37 (by omega)
  refine VW.iconst (pc' := 41) d_F_ratio_40 rfl (by decide) ?_
  refine VW.goto (pc' := 45) d_F_ratio_41 rfl ?_
  refine VW.callSX (pc' := 48) d_F_ratio_45 rfl (sp_F_demandPlace1 (by decide)) rfl ms_F_demandPlace.1 ms_F_demandPlace.2.1 rfl ms_F_demandPlace.2.2 lk_F_97 rfl rfl rfl (by decide) (by decide) (fun _ _ _ _ _ hz => by cases hz.1) (fun r _ _ _ _ hz => ?_)
  obtain ⟨z1, z2, z3, z4, z5⟩ := hz
  cases z1
  replace z2 := z2.symm; replace z3 := z3.symm; replace z4 := z4.symm; replace z5 := z5.symm
  subst z2; subst z3; subst z4; subst z5
  refine VW.iload_n (pc' := 49) d_F_ratio_48 rfl rfl ?_
  refine VW.cS (pc' := 52) d_F_ratio_49 rfl ms_F_isNumber lk_F_104 rfl rfl rfl (by decide) (by decide) (F_isNum1 hv) rfl rfl ?_
  refine VW.callSX (pc' := 55) d_F_ratio_52 rfl (sp_F_demandRange1 (by decide)) rfl ms_F_demandRange.1 ms_F_demandRange.2.1 rfl ms_F_demandRange.2.2 lk_F_70 rfl rfl rfl (by decide) (by decide) (fun _ _ _ _ _ hz => by cases hz.1) (fun r _ _ _ _ hz => ?_)
  obtain ⟨z1, z2, z3, z4, z5⟩ := hz
  cases z1
  replace z2 := z2.symm; replace z3 := z3.symm; replace z4 := z4.symm; replace z5 := z5.symm
  subst z2; subst z3; subst z4; subst z5
  refine VW.aload_n (pc' := 56) d_F_ratio_55 rfl rfl ?_
  refine VW.gP (ci := 10) (T := T10) (N := 11) (k := 10) (k' := 10) (pc' := 59) d_F_ratio_56 rfl lk_F_66 in10 rfl rfl rfl rfl (by first | exact hC.k 0 rfl | exact hC.k 2 rfl | exact hC.k 3 rfl | exact hQ.k) (by first | exact hp | exact hC.p 0 rfl | exact hC.p 9 rfl | rfl) ?_
  refine VW.iconst (pc' := 60) d_F_ratio_59 rfl (by decide) ?_
  refine VW.iload (pc' := 62) d_F_ratio_60 rfl rfl ?_
  refine VW.iload_n (pc' := 63) d_F_ratio_62 rfl rfl ?_
  refine VW.iload_n (pc' := 64) d_F_ratio_63 rfl rfl ?_
  refine VW.iload_n (pc' := 65) d_F_ratio_64 rfl rfl ?_
  refine VW.iconst (pc' := 66) d_F_ratio_65 rfl (by decide) ?_
  refine VW.cV (ci := 4) (T := T4) (N := 13) (pc' := 69) d_F_ratio_66 rfl mv_Query_putOnLast lk_F_244 rfl (by first | exact hC.k 0 rfl | exact hC.k 2 rfl | exact hC.k 3 rfl | exact hQ.k) rfl rfl rfl (by decide) (by decide) (sp_Query_putOnLast hQ ⟨h0, ht.2⟩ ⟨ht.1, h7⟩) rfl rfl ?_
  refine VW.aload_n (pc' := 70) d_F_ratio_69 rfl rfl ?_
  refine VW.gP (ci := 10) (T := T10) (N := 11) (k := 10) (k' := 10) (pc' := 73) d_F_ratio_70 rfl lk_F_66 in10 rfl rfl rfl rfl (by first | exact hC.k 0 rfl | exact hC.k 2 rfl | exact hC.k 3 rfl | exact hQ.k) (by first | exact hp | exact hC.p 0 rfl | exact hC.p 9 rfl | rfl) ?_
  refine VW.gI (ci := 4) (T := T4) (N := 13) (k := 7) (k' := 7) (pc' := 76) d_F_ratio_73 rfl lk_F_228 in4 rfl rfl rfl rfl (by first | exact hC.k 0 rfl | exact hC.k 2 rfl | exact hC.k 3 rfl | exact hQ.k) (by first | exact hp | exact hC.p 0 rfl | exact hC.p 9 rfl | rfl) ?_
  exact VW.iret d_F_ratio_76 rfl rfl (by decide) (by decide) ex_rf
theorem group_no2a (hC : ClW K P) (hp : P 1000 10 = some q) (hQ : QuW K P q) (hB : QuB I q) (ht : 1 ≤ I q 7 ∧ I q 0 < 12) (h : ¬ (c = -1 ∨ (0 ≤ c ∧ c < quLast I q))) : Sp m_F_group true ({ frames := 12, cells := 1, slots := 6, locals := 400 } : Room) (ex K P J I (.inr eIOO)) K P J I [vR (some 1000), vI c, vI w, vI o] := by
  refine Sp.ofV (by decide) (Or.inl rfl) rfl ?_
  refine VW.aload_n (pc' := 1) d_F_group_0 rfl rfl ?_
  refine VW.gP (ci := 10) (T := T10) (N := 11) (k := 10) (k' := 10) (pc' := 4) d_F_group_1 rfl lk_F_66 in10 rfl rfl rfl rfl (by first | exact hC.k 0 rfl | exact hC.k 2 rfl | exact hC.k 3 rfl | exact hQ.k) (by first | exact hp | exact hC.p 0 rfl | exact hC.p 9 rfl | rfl) ?_
  refine VW.iconst (pc' := 5) d_F_group_4 rfl (by decide) ?_
  refine VW.cV (ci := 4) (T := T4) (N := 13) (pc' := 8) d_F_group_5 rfl mv_Query_takesOperator lk_F_238 rfl (by first | exact hC.k 0 rfl | exact hC.k 2 rfl | exact hC.k 3 rfl | exact hQ.k) rfl rfl rfl (by decide) (by decide) (tkY hQ ht) rfl rfl ?_
  refine VW.callSX (pc' := 11) d_F_group_8 rfl (sp_F_demandState1 (by decide)) rfl ms_F_demandState.1 ms_F_demandState.2.1 rfl ms_F_demandState.2.2 lk_F_82 rfl rfl rfl (by decide) (by decide) (fun _ _ _ _ _ hz => by cases hz.1) (fun r _ _ _ _ hz => ?_)
  obtain ⟨z1, z2, z3, z4, z5⟩ := hz
  cases z1
  replace z2 := z2.symm; replace z3 := z3.symm; replace z4 := z4.symm; replace z5 := z5.symm
  subst z2; subst z3; subst z4; subst z5
  refine VW.aload_n (pc' := 12) d_F_group_11 rfl rfl ?_
  refine VW.gP (ci := 10) (T := T10) (N := 11) (k := 10) (k' := 10) (pc' := 15) d_F_group_12 rfl lk_F_66 in10 rfl rfl rfl rfl (by first | exact hC.k 0 rfl | exact hC.k 2 rfl | exact hC.k 3 rfl | exact hQ.k) (by first | exact hp | exact hC.p 0 rfl | exact hC.p 9 rfl | rfl) ?_
  refine VW.cV (ci := 4) (T := T4) (N := 13) (pc' := 18) d_F_group_15 rfl mv_Query_lastWidth lk_F_241 rfl (by first | exact hC.k 0 rfl | exact hC.k 2 rfl | exact hC.k 3 rfl | exact hQ.k) rfl rfl rfl (by decide) (by decide) (sp_Query_lastWidth hQ hB) rfl rfl ?_
  refine VW.istore (pc' := 20) d_F_group_18 rfl rfl ?_
  refine VW.iload_n (pc' := 21) d_F_group_20 rfl rfl ?_
  refine VW.iconst (pc' := 22) d_F_group_21 rfl (by decide) ?_
  refine VW.icmp_eq (tgt := 35) (pc' := 25) d_F_group_22 rfl rfl (fun c22 => ?_) (fun c22 => ?_)
  · refine VW.nrm ?_
    exact absurd (by omega) h
  · refine VW.iload_n (pc' := 26) d_F_group_25 rfl rfl ?_
    refine VW.if_lt (tgt := 39) (pc' := 29) d_F_group_26 rfl rfl (fun c26 => ?_) (fun c26 => ?_)
    · refine VW.iconst (pc' := 40) d_F_group_39 rfl (by decide) ?_
      refine VW.callSX (pc' := 43) d_F_group_40 rfl (sp_F_demandPlace0) rfl ms_F_demandPlace.1 ms_F_demandPlace.2.1 rfl ms_F_demandPlace.2.2 lk_F_97 rfl rfl rfl (by decide) (by decide) (fun _ _ _ _ _ hz => ?_) (fun _ _ _ _ _ hz => by cases hz.1)
      obtain ⟨z1, z2, z3, z4, z5⟩ := hz
      cases z1
      replace z2 := z2.symm; replace z3 := z3.symm; replace z4 := z4.symm; replace z5 := z5.symm
      subst z2; subst z3; subst z4; subst z5
      exact Or.inl ⟨rfl, ex_rf⟩
      -- end
    · refine VW.iload_n (pc' := 30) d_F_group_29 rfl rfl ?_
      refine VW.iload (pc' := 32) d_F_group_30 rfl rfl ?_
      refine VW.icmp_ge (tgt := 39) (pc' := 35) d_F_group_32 rfl rfl (fun c32 => ?_) (fun c32 => ?_)
      · refine VW.iconst (pc' := 40) d_F_group_39 rfl (by decide) ?_
        refine VW.callSX (pc' := 43) d_F_group_40 rfl (sp_F_demandPlace0) rfl ms_F_demandPlace.1 ms_F_demandPlace.2.1 rfl ms_F_demandPlace.2.2 lk_F_97 rfl rfl rfl (by decide) (by decide) (fun _ _ _ _ _ hz => ?_) (fun _ _ _ _ _ hz => by cases hz.1)
        obtain ⟨z1, z2, z3, z4, z5⟩ := hz
        cases z1
        replace z2 := z2.symm; replace z3 := z3.symm; replace z4 := z4.symm; replace z5 := z5.symm
        subst z2; subst z3; subst z4; subst z5
        exact Or.inl ⟨rfl, ex_rf⟩
        -- end
      · refine VW.nrm ?_
        exact absurd (by omega) h
theorem group_no2b (hC : ClW K P) (hp : P 1000 10 = some q) (hQ : QuW K P q) (hB : QuB I q) (ht : 1 ≤ I q 7 ∧ I q 0 < 12) (hc : c = -1 ∨ (0 ≤ c ∧ c < quLast I q)) (h : ¬ (w = 0 ∨ (0 ≤ o ∧ o < quLast I q))) : Sp m_F_group true ({ frames := 12, cells := 1, slots := 6, locals := 400 } : Room) (ex K P J I (.inr eIOO)) K P J I [vR (some 1000), vI c, vI w, vI o] := by
  rcases hc with rfl | hc
  all_goals refine Sp.ofV (by decide) (Or.inl rfl) rfl ?_
  · refine VW.aload_n (pc' := 1) d_F_group_0 rfl rfl ?_
    refine VW.gP (ci := 10) (T := T10) (N := 11) (k := 10) (k' := 10) (pc' := 4) d_F_group_1 rfl lk_F_66 in10 rfl rfl rfl rfl (by first | exact hC.k 0 rfl | exact hC.k 2 rfl | exact hC.k 3 rfl | exact hQ.k) (by first | exact hp | exact hC.p 0 rfl | exact hC.p 9 rfl | rfl) ?_
    refine VW.iconst (pc' := 5) d_F_group_4 rfl (by decide) ?_
    refine VW.cV (ci := 4) (T := T4) (N := 13) (pc' := 8) d_F_group_5 rfl mv_Query_takesOperator lk_F_238 rfl (by first | exact hC.k 0 rfl | exact hC.k 2 rfl | exact hC.k 3 rfl | exact hQ.k) rfl rfl rfl (by decide) (by decide) (tkY hQ ht) rfl rfl ?_
    refine VW.callSX (pc' := 11) d_F_group_8 rfl (sp_F_demandState1 (by decide)) rfl ms_F_demandState.1 ms_F_demandState.2.1 rfl ms_F_demandState.2.2 lk_F_82 rfl rfl rfl (by decide) (by decide) (fun _ _ _ _ _ hz => by cases hz.1) (fun r _ _ _ _ hz => ?_)
    obtain ⟨z1, z2, z3, z4, z5⟩ := hz
    cases z1
    replace z2 := z2.symm; replace z3 := z3.symm; replace z4 := z4.symm; replace z5 := z5.symm
    subst z2; subst z3; subst z4; subst z5
    refine VW.aload_n (pc' := 12) d_F_group_11 rfl rfl ?_
    refine VW.gP (ci := 10) (T := T10) (N := 11) (k := 10) (k' := 10) (pc' := 15) d_F_group_12 rfl lk_F_66 in10 rfl rfl rfl rfl (by first | exact hC.k 0 rfl | exact hC.k 2 rfl | exact hC.k 3 rfl | exact hQ.k) (by first | exact hp | exact hC.p 0 rfl | exact hC.p 9 rfl | rfl) ?_
    refine VW.cV (ci := 4) (T := T4) (N := 13) (pc' := 18) d_F_group_15 rfl mv_Query_lastWidth lk_F_241 rfl (by first | exact hC.k 0 rfl | exact hC.k 2 rfl | exact hC.k 3 rfl | exact hQ.k) rfl rfl rfl (by decide) (by decide) (sp_Query_lastWidth hQ hB) rfl rfl ?_
    refine VW.istore (pc' := 20) d_F_group_18 rfl rfl ?_
    refine VW.iload_n (pc' := 21) d_F_group_20 rfl rfl ?_
    refine VW.iconst (pc' := 22) d_F_group_21 rfl (by decide) ?_
    refine VW.icmp_eq (tgt := 35) (pc' := 25) d_F_group_22 rfl rfl (fun c22 => ?_) (fun c22 => ?_)
    case refine_2 => exact absurd c22 (fun z => z rfl)
    refine VW.iconst (pc' := 36) d_F_group_35 rfl (by decide) ?_
    refine VW.goto (pc' := 40) d_F_group_36 rfl ?_
    refine VW.callSX (pc' := 43) d_F_group_40 rfl (sp_F_demandPlace1 (by decide)) rfl ms_F_demandPlace.1 ms_F_demandPlace.2.1 rfl ms_F_demandPlace.2.2 lk_F_97 rfl rfl rfl (by decide) (by decide) (fun _ _ _ _ _ hz => by cases hz.1) (fun r _ _ _ _ hz => ?_)
    obtain ⟨z1, z2, z3, z4, z5⟩ := hz
    cases z1
    replace z2 := z2.symm; replace z3 := z3.symm; replace z4 := z4.symm; replace z5 := z5.symm
    subst z2; subst z3; subst z4; subst z5
    refine VW.iload_n (pc' := 44) d_F_group_43 rfl rfl ?_
    refine VW.if_eq (tgt := 57) (pc' := 47) d_F_group_44 rfl rfl (fun c44 => ?_) (fun c44 => ?_)
    · try have e44 := bIe c44
      refine VW.nrm ?_
      exact absurd (by omega) h
    · try have e44 := bIn c44
      refine VW.iload_n (pc' := 48) d_F_group_47 rfl rfl ?_
      refine VW.if_lt (tgt := 61) (pc' := 51) d_F_group_48 rfl rfl (fun c48 => ?_) (fun c48 => ?_)
      · refine VW.iconst (pc' := 62) d_F_group_61 rfl (by decide) ?_
        refine VW.callSX (pc' := 65) d_F_group_62 rfl (sp_F_demandPlace0) rfl ms_F_demandPlace.1 ms_F_demandPlace.2.1 rfl ms_F_demandPlace.2.2 lk_F_97 rfl rfl rfl (by decide) (by decide) (fun _ _ _ _ _ hz => ?_) (fun _ _ _ _ _ hz => by cases hz.1)
        obtain ⟨z1, z2, z3, z4, z5⟩ := hz
        cases z1
        replace z2 := z2.symm; replace z3 := z3.symm; replace z4 := z4.symm; replace z5 := z5.symm
        subst z2; subst z3; subst z4; subst z5
        exact Or.inl ⟨rfl, ex_rf⟩
        -- end
      · refine VW.iload_n (pc' := 52) d_F_group_51 rfl rfl ?_
        refine VW.iload (pc' := 54) d_F_group_52 rfl rfl ?_
        refine VW.icmp_ge (tgt := 61) (pc' := 57) d_F_group_54 rfl rfl (fun c54 => ?_) (fun c54 => ?_)
        · refine VW.iconst (pc' := 62) d_F_group_61 rfl (by decide) ?_
          refine VW.callSX (pc' := 65) d_F_group_62 rfl (sp_F_demandPlace0) rfl ms_F_demandPlace.1 ms_F_demandPlace.2.1 rfl ms_F_demandPlace.2.2 lk_F_97 rfl rfl rfl (by decide) (by decide) (fun _ _ _ _ _ hz => ?_) (fun _ _ _ _ _ hz => by cases hz.1)
          obtain ⟨z1, z2, z3, z4, z5⟩ := hz
          cases z1
          replace z2 := z2.symm; replace z3 := z3.symm; replace z4 := z4.symm; replace z5 := z5.symm
          subst z2; subst z3; subst z4; subst z5
          exact Or.inl ⟨rfl, ex_rf⟩
          -- end
        · refine VW.nrm ?_
          exact absurd (by omega) h
  · refine VW.aload_n (pc' := 1) d_F_group_0 rfl rfl ?_
    refine VW.gP (ci := 10) (T := T10) (N := 11) (k := 10) (k' := 10) (pc' := 4) d_F_group_1 rfl lk_F_66 in10 rfl rfl rfl rfl (by first | exact hC.k 0 rfl | exact hC.k 2 rfl | exact hC.k 3 rfl | exact hQ.k) (by first | exact hp | exact hC.p 0 rfl | exact hC.p 9 rfl | rfl) ?_
    refine VW.iconst (pc' := 5) d_F_group_4 rfl (by decide) ?_
    refine VW.cV (ci := 4) (T := T4) (N := 13) (pc' := 8) d_F_group_5 rfl mv_Query_takesOperator lk_F_238 rfl (by first | exact hC.k 0 rfl | exact hC.k 2 rfl | exact hC.k 3 rfl | exact hQ.k) rfl rfl rfl (by decide) (by decide) (tkY hQ ht) rfl rfl ?_
    refine VW.callSX (pc' := 11) d_F_group_8 rfl (sp_F_demandState1 (by decide)) rfl ms_F_demandState.1 ms_F_demandState.2.1 rfl ms_F_demandState.2.2 lk_F_82 rfl rfl rfl (by decide) (by decide) (fun _ _ _ _ _ hz => by cases hz.1) (fun r _ _ _ _ hz => ?_)
    obtain ⟨z1, z2, z3, z4, z5⟩ := hz
    cases z1
    replace z2 := z2.symm; replace z3 := z3.symm; replace z4 := z4.symm; replace z5 := z5.symm
    subst z2; subst z3; subst z4; subst z5
    refine VW.aload_n (pc' := 12) d_F_group_11 rfl rfl ?_
    refine VW.gP (ci := 10) (T := T10) (N := 11) (k := 10) (k' := 10) (pc' := 15) d_F_group_12 rfl lk_F_66 in10 rfl rfl rfl rfl (by first | exact hC.k 0 rfl | exact hC.k 2 rfl | exact hC.k 3 rfl | exact hQ.k) (by first | exact hp | exact hC.p 0 rfl | exact hC.p 9 rfl | rfl) ?_
    refine VW.cV (ci := 4) (T := T4) (N := 13) (pc' := 18) d_F_group_15 rfl mv_Query_lastWidth lk_F_241 rfl (by first | exact hC.k 0 rfl | exact hC.k 2 rfl | exact hC.k 3 rfl | exact hQ.k) rfl rfl rfl (by decide) (by decide) (sp_Query_lastWidth hQ hB) rfl rfl ?_
    refine VW.istore (pc' := 20) d_F_group_18 rfl rfl ?_
    refine VW.iload_n (pc' := 21) d_F_group_20 rfl rfl ?_
    refine VW.iconst (pc' := 22) d_F_group_21 rfl (by decide) ?_
    refine VW.icmp_eq (tgt := 35) (pc' := 25) d_F_group_22 rfl rfl (fun c22 => ?_) (fun c22 => ?_)
    case refine_1 => exact absurd c22 (by omega)
    refine VW.iload_n (pc' := 26) d_F_group_25 rfl rfl ?_
    refine VW.if_lt (tgt := 39) (pc' := 29) d_F_group_26 rfl rfl (fun c26 => ?_) (fun c26 => ?_)
    case refine_1 => exact absurd c26 (by omega)
    refine VW.iload_n (pc' := 30) d_F_group_29 rfl rfl ?_
    refine VW.iload (pc' := 32) d_F_group_30 rfl rfl ?_
    refine VW.icmp_ge (tgt := 39) (pc' := 35) d_F_group_32 rfl rfl (fun c32 => ?_) (fun c32 => ?_)
    case refine_1 => exact absurd c32 (by omega)
    refine VW.iconst (pc' := 36) d_F_group_35 rfl (by decide) ?_
    refine VW.goto (pc' := 40) d_F_group_36 rfl ?_
    refine VW.callSX (pc' := 43) d_F_group_40 rfl (sp_F_demandPlace1 (by decide)) rfl ms_F_demandPlace.1 ms_F_demandPlace.2.1 rfl ms_F_demandPlace.2.2 lk_F_97 rfl rfl rfl (by decide) (by decide) (fun _ _ _ _ _ hz => by cases hz.1) (fun r _ _ _ _ hz => ?_)
    obtain ⟨z1, z2, z3, z4, z5⟩ := hz
    cases z1
    replace z2 := z2.symm; replace z3 := z3.symm; replace z4 := z4.symm; replace z5 := z5.symm
    subst z2; subst z3; subst z4; subst z5
    refine VW.iload_n (pc' := 44) d_F_group_43 rfl rfl ?_
    refine VW.if_eq (tgt := 57) (pc' := 47) d_F_group_44 rfl rfl (fun c44 => ?_) (fun c44 => ?_)
    · try have e44 := bIe c44
      refine VW.nrm ?_
      exact absurd (by omega) h
    · try have e44 := bIn c44
      refine VW.iload_n (pc' := 48) d_F_group_47 rfl rfl ?_
      refine VW.if_lt (tgt := 61) (pc' := 51) d_F_group_48 rfl rfl (fun c48 => ?_) (fun c48 => ?_)
      · refine VW.iconst (pc' := 62) d_F_group_61 rfl (by decide) ?_
        refine VW.callSX (pc' := 65) d_F_group_62 rfl (sp_F_demandPlace0) rfl ms_F_demandPlace.1 ms_F_demandPlace.2.1 rfl ms_F_demandPlace.2.2 lk_F_97 rfl rfl rfl (by decide) (by decide) (fun _ _ _ _ _ hz => ?_) (fun _ _ _ _ _ hz => by cases hz.1)
        obtain ⟨z1, z2, z3, z4, z5⟩ := hz
        cases z1
        replace z2 := z2.symm; replace z3 := z3.symm; replace z4 := z4.symm; replace z5 := z5.symm
        subst z2; subst z3; subst z4; subst z5
        exact Or.inl ⟨rfl, ex_rf⟩
        -- end
      · refine VW.iload_n (pc' := 52) d_F_group_51 rfl rfl ?_
        refine VW.iload (pc' := 54) d_F_group_52 rfl rfl ?_
        refine VW.icmp_ge (tgt := 61) (pc' := 57) d_F_group_54 rfl rfl (fun c54 => ?_) (fun c54 => ?_)
        · refine VW.iconst (pc' := 62) d_F_group_61 rfl (by decide) ?_
          refine VW.callSX (pc' := 65) d_F_group_62 rfl (sp_F_demandPlace0) rfl ms_F_demandPlace.1 ms_F_demandPlace.2.1 rfl ms_F_demandPlace.2.2 lk_F_97 rfl rfl rfl (by decide) (by decide) (fun _ _ _ _ _ hz => ?_) (fun _ _ _ _ _ hz => by cases hz.1)
          obtain ⟨z1, z2, z3, z4, z5⟩ := hz
          cases z1
          replace z2 := z2.symm; replace z3 := z3.symm; replace z4 := z4.symm; replace z5 := z5.symm
          subst z2; subst z3; subst z4; subst z5
          exact Or.inl ⟨rfl, ex_rf⟩
          -- end
        · refine VW.nrm ?_
          exact absurd (by omega) h
theorem group_no3 (hC : ClW K P) (hp : P 1000 10 = some q) (hQ : QuW K P q) (hB : QuB I q) (ht : 1 ≤ I q 7 ∧ I q 0 < 12) (hc : c = -1 ∨ (0 ≤ c ∧ c < quLast I q)) (ho : w = 0 ∨ (0 ≤ o ∧ o < quLast I q)) (h : ¬ (0 ≤ w ∧ w ≤ 3)) : Sp m_F_group true ({ frames := 12, cells := 1, slots := 6, locals := 400 } : Room) (ex K P J I (.inr eIAE)) K P J I [vR (some 1000), vI c, vI w, vI o] := by
  rcases hc with rfl | hc <;> rcases (show w = 0 ∨ (w ≠ 0 ∧ 0 ≤ o ∧ o < quLast I q) by omega) with rfl | ho2
  all_goals refine Sp.ofV (by decide) (Or.inl rfl) rfl ?_
  · exact absurd ⟨by decide, by decide⟩ h
  · refine VW.aload_n (pc' := 1) d_F_group_0 rfl rfl ?_
    refine VW.gP (ci := 10) (T := T10) (N := 11) (k := 10) (k' := 10) (pc' := 4) d_F_group_1 rfl lk_F_66 in10 rfl rfl rfl rfl (by first | exact hC.k 0 rfl | exact hC.k 2 rfl | exact hC.k 3 rfl | exact hQ.k) (by first | exact hp | exact hC.p 0 rfl | exact hC.p 9 rfl | rfl) ?_
    refine VW.iconst (pc' := 5) d_F_group_4 rfl (by decide) ?_
    refine VW.cV (ci := 4) (T := T4) (N := 13) (pc' := 8) d_F_group_5 rfl mv_Query_takesOperator lk_F_238 rfl (by first | exact hC.k 0 rfl | exact hC.k 2 rfl | exact hC.k 3 rfl | exact hQ.k) rfl rfl rfl (by decide) (by decide) (tkY hQ ht) rfl rfl ?_
    refine VW.callSX (pc' := 11) d_F_group_8 rfl (sp_F_demandState1 (by decide)) rfl ms_F_demandState.1 ms_F_demandState.2.1 rfl ms_F_demandState.2.2 lk_F_82 rfl rfl rfl (by decide) (by decide) (fun _ _ _ _ _ hz => by cases hz.1) (fun r _ _ _ _ hz => ?_)
    obtain ⟨z1, z2, z3, z4, z5⟩ := hz
    cases z1
    replace z2 := z2.symm; replace z3 := z3.symm; replace z4 := z4.symm; replace z5 := z5.symm
    subst z2; subst z3; subst z4; subst z5
    refine VW.aload_n (pc' := 12) d_F_group_11 rfl rfl ?_
    refine VW.gP (ci := 10) (T := T10) (N := 11) (k := 10) (k' := 10) (pc' := 15) d_F_group_12 rfl lk_F_66 in10 rfl rfl rfl rfl (by first | exact hC.k 0 rfl | exact hC.k 2 rfl | exact hC.k 3 rfl | exact hQ.k) (by first | exact hp | exact hC.p 0 rfl | exact hC.p 9 rfl | rfl) ?_
    refine VW.cV (ci := 4) (T := T4) (N := 13) (pc' := 18) d_F_group_15 rfl mv_Query_lastWidth lk_F_241 rfl (by first | exact hC.k 0 rfl | exact hC.k 2 rfl | exact hC.k 3 rfl | exact hQ.k) rfl rfl rfl (by decide) (by decide) (sp_Query_lastWidth hQ hB) rfl rfl ?_
    refine VW.istore (pc' := 20) d_F_group_18 rfl rfl ?_
    refine VW.iload_n (pc' := 21) d_F_group_20 rfl rfl ?_
    refine VW.iconst (pc' := 22) d_F_group_21 rfl (by decide) ?_
    refine VW.icmp_eq (tgt := 35) (pc' := 25) d_F_group_22 rfl rfl (fun c22 => ?_) (fun c22 => ?_)
    case refine_2 => exact absurd c22 (fun z => z rfl)
    refine VW.iconst (pc' := 36) d_F_group_35 rfl (by decide) ?_
    refine VW.goto (pc' := 40) d_F_group_36 rfl ?_
    refine VW.callSX (pc' := 43) d_F_group_40 rfl (sp_F_demandPlace1 (by decide)) rfl ms_F_demandPlace.1 ms_F_demandPlace.2.1 rfl ms_F_demandPlace.2.2 lk_F_97 rfl rfl rfl (by decide) (by decide) (fun _ _ _ _ _ hz => by cases hz.1) (fun r _ _ _ _ hz => ?_)
    obtain ⟨z1, z2, z3, z4, z5⟩ := hz
    cases z1
    replace z2 := z2.symm; replace z3 := z3.symm; replace z4 := z4.symm; replace z5 := z5.symm
    subst z2; subst z3; subst z4; subst z5
    refine VW.iload_n (pc' := 44) d_F_group_43 rfl rfl ?_
    refine VW.if_eq (tgt := 57) (pc' := 47) d_F_group_44 rfl rfl (fun c44 => ?_) (fun c44 => ?_)
    case refine_1 => exact absurd c44 (ho2.1)
    refine VW.iload_n (pc' := 48) d_F_group_47 rfl rfl ?_
    refine VW.if_lt (tgt := 61) (pc' := 51) d_F_group_48 rfl rfl (fun c48 => ?_) (fun c48 => ?_)
    case refine_1 => exact absurd c48 (by omega)
    refine VW.iload_n (pc' := 52) d_F_group_51 rfl rfl ?_
    refine VW.iload (pc' := 54) d_F_group_52 rfl rfl ?_
    refine VW.icmp_ge (tgt := 61) (pc' := 57) d_F_group_54 rfl rfl (fun c54 => ?_) (fun c54 => ?_)
    case refine_1 => exact absurd c54 (by omega)
    refine VW.iconst (pc' := 58) d_F_group_57 rfl (by decide) ?_
    refine VW.goto (pc' := 62) d_F_group_58 rfl ?_
    refine VW.callSX (pc' := 65) d_F_group_62 rfl (sp_F_demandPlace1 (by decide)) rfl ms_F_demandPlace.1 ms_F_demandPlace.2.1 rfl ms_F_demandPlace.2.2 lk_F_97 rfl rfl rfl (by decide) (by decide) (fun _ _ _ _ _ hz => by cases hz.1) (fun r _ _ _ _ hz => ?_)
    obtain ⟨z1, z2, z3, z4, z5⟩ := hz
    cases z1
    replace z2 := z2.symm; replace z3 := z3.symm; replace z4 := z4.symm; replace z5 := z5.symm
    subst z2; subst z3; subst z4; subst z5
    refine VW.iload_n (pc' := 66) d_F_group_65 rfl rfl ?_
    refine VW.if_lt (tgt := 78) (pc' := 69) d_F_group_66 rfl rfl (fun c66 => ?_) (fun c66 => ?_)
    · refine VW.iconst (pc' := 79) d_F_group_78 rfl (by decide) ?_
      refine VW.callSX (pc' := 82) d_F_group_79 rfl (sp_F_demandRange0) rfl ms_F_demandRange.1 ms_F_demandRange.2.1 rfl ms_F_demandRange.2.2 lk_F_70 rfl rfl rfl (by decide) (by decide) (fun _ _ _ _ _ hz => ?_) (fun _ _ _ _ _ hz => by cases hz.1)
      obtain ⟨z1, z2, z3, z4, z5⟩ := hz
      cases z1
      replace z2 := z2.symm; replace z3 := z3.symm; replace z4 := z4.symm; replace z5 := z5.symm
      subst z2; subst z3; subst z4; subst z5
      exact Or.inl ⟨rfl, ex_rf⟩
      -- end
    · refine VW.iload_n (pc' := 70) d_F_group_69 rfl rfl ?_
      refine VW.iconst (pc' := 71) d_F_group_70 rfl (by decide) ?_
      refine VW.icmp_gt (tgt := 78) (pc' := 74) d_F_group_71 rfl rfl (fun c71 => ?_) (fun c71 => ?_)
      · refine VW.iconst (pc' := 79) d_F_group_78 rfl (by decide) ?_
        refine VW.callSX (pc' := 82) d_F_group_79 rfl (sp_F_demandRange0) rfl ms_F_demandRange.1 ms_F_demandRange.2.1 rfl ms_F_demandRange.2.2 lk_F_70 rfl rfl rfl (by decide) (by decide) (fun _ _ _ _ _ hz => ?_) (fun _ _ _ _ _ hz => by cases hz.1)
        obtain ⟨z1, z2, z3, z4, z5⟩ := hz
        cases z1
        replace z2 := z2.symm; replace z3 := z3.symm; replace z4 := z4.symm; replace z5 := z5.symm
        subst z2; subst z3; subst z4; subst z5
        exact Or.inl ⟨rfl, ex_rf⟩
        -- end
      · refine VW.nrm ?_
        exact absurd ⟨by omega, by omega⟩ h
  · exact absurd ⟨by decide, by decide⟩ h
  · refine VW.aload_n (pc' := 1) d_F_group_0 rfl rfl ?_
    refine VW.gP (ci := 10) (T := T10) (N := 11) (k := 10) (k' := 10) (pc' := 4) d_F_group_1 rfl lk_F_66 in10 rfl rfl rfl rfl (by first | exact hC.k 0 rfl | exact hC.k 2 rfl | exact hC.k 3 rfl | exact hQ.k) (by first | exact hp | exact hC.p 0 rfl | exact hC.p 9 rfl | rfl) ?_
    refine VW.iconst (pc' := 5) d_F_group_4 rfl (by decide) ?_
    refine VW.cV (ci := 4) (T := T4) (N := 13) (pc' := 8) d_F_group_5 rfl mv_Query_takesOperator lk_F_238 rfl (by first | exact hC.k 0 rfl | exact hC.k 2 rfl | exact hC.k 3 rfl | exact hQ.k) rfl rfl rfl (by decide) (by decide) (tkY hQ ht) rfl rfl ?_
    refine VW.callSX (pc' := 11) d_F_group_8 rfl (sp_F_demandState1 (by decide)) rfl ms_F_demandState.1 ms_F_demandState.2.1 rfl ms_F_demandState.2.2 lk_F_82 rfl rfl rfl (by decide) (by decide) (fun _ _ _ _ _ hz => by cases hz.1) (fun r _ _ _ _ hz => ?_)
    obtain ⟨z1, z2, z3, z4, z5⟩ := hz
    cases z1
    replace z2 := z2.symm; replace z3 := z3.symm; replace z4 := z4.symm; replace z5 := z5.symm
    subst z2; subst z3; subst z4; subst z5
    refine VW.aload_n (pc' := 12) d_F_group_11 rfl rfl ?_
    refine VW.gP (ci := 10) (T := T10) (N := 11) (k := 10) (k' := 10) (pc' := 15) d_F_group_12 rfl lk_F_66 in10 rfl rfl rfl rfl (by first | exact hC.k 0 rfl | exact hC.k 2 rfl | exact hC.k 3 rfl | exact hQ.k) (by first | exact hp | exact hC.p 0 rfl | exact hC.p 9 rfl | rfl) ?_
    refine VW.cV (ci := 4) (T := T4) (N := 13) (pc' := 18) d_F_group_15 rfl mv_Query_lastWidth lk_F_241 rfl (by first | exact hC.k 0 rfl | exact hC.k 2 rfl | exact hC.k 3 rfl | exact hQ.k) rfl rfl rfl (by decide) (by decide) (sp_Query_lastWidth hQ hB) rfl rfl ?_
    refine VW.istore (pc' := 20) d_F_group_18 rfl rfl ?_
    refine VW.iload_n (pc' := 21) d_F_group_20 rfl rfl ?_
    refine VW.iconst (pc' := 22) d_F_group_21 rfl (by decide) ?_
    refine VW.icmp_eq (tgt := 35) (pc' := 25) d_F_group_22 rfl rfl (fun c22 => ?_) (fun c22 => ?_)
    case refine_1 => exact absurd c22 (by omega)
    refine VW.iload_n (pc' := 26) d_F_group_25 rfl rfl ?_
    refine VW.if_lt (tgt := 39) (pc' := 29) d_F_group_26 rfl rfl (fun c26 => ?_) (fun c26 => ?_)
    case refine_1 => exact absurd c26 (by omega)
    refine VW.iload_n (pc' := 30) d_F_group_29 rfl rfl ?_
    refine VW.iload (pc' := 32) d_F_group_30 rfl rfl ?_
    refine VW.icmp_ge (tgt := 39) (pc' := 35) d_F_group_32 rfl rfl (fun c32 => ?_) (fun c32 => ?_)
    case refine_1 => exact absurd c32 (by omega)
    refine VW.iconst (pc' := 36) d_F_group_35 rfl (by decide) ?_
    refine VW.goto (pc' := 40) d_F_group_36 rfl ?_
    refine VW.callSX (pc' := 43) d_F_group_40 rfl (sp_F_demandPlace1 (by decide)) rfl ms_F_demandPlace.1 ms_F_demandPlace.2.1 rfl ms_F_demandPlace.2.2 lk_F_97 rfl rfl rfl (by decide) (by decide) (fun _ _ _ _ _ hz => by cases hz.1) (fun r _ _ _ _ hz => ?_)
    obtain ⟨z1, z2, z3, z4, z5⟩ := hz
    cases z1
    replace z2 := z2.symm; replace z3 := z3.symm; replace z4 := z4.symm; replace z5 := z5.symm
    subst z2; subst z3; subst z4; subst z5
    refine VW.iload_n (pc' := 44) d_F_group_43 rfl rfl ?_
    refine VW.if_eq (tgt := 57) (pc' := 47) d_F_group_44 rfl rfl (fun c44 => ?_) (fun c44 => ?_)
    case refine_1 => exact absurd c44 (ho2.1)
    refine VW.iload_n (pc' := 48) d_F_group_47 rfl rfl ?_
    refine VW.if_lt (tgt := 61) (pc' := 51) d_F_group_48 rfl rfl (fun c48 => ?_) (fun c48 => ?_)
    case refine_1 => exact absurd c48 (by omega)
    refine VW.iload_n (pc' := 52) d_F_group_51 rfl rfl ?_
    refine VW.iload (pc' := 54) d_F_group_52 rfl rfl ?_
    refine VW.icmp_ge (tgt := 61) (pc' := 57) d_F_group_54 rfl rfl (fun c54 => ?_) (fun c54 => ?_)
    case refine_1 => exact absurd c54 (by omega)
    refine VW.iconst (pc' := 58) d_F_group_57 rfl (by decide) ?_
    refine VW.goto (pc' := 62) d_F_group_58 rfl ?_
    refine VW.callSX (pc' := 65) d_F_group_62 rfl (sp_F_demandPlace1 (by decide)) rfl ms_F_demandPlace.1 ms_F_demandPlace.2.1 rfl ms_F_demandPlace.2.2 lk_F_97 rfl rfl rfl (by decide) (by decide) (fun _ _ _ _ _ hz => by cases hz.1) (fun r _ _ _ _ hz => ?_)
    obtain ⟨z1, z2, z3, z4, z5⟩ := hz
    cases z1
    replace z2 := z2.symm; replace z3 := z3.symm; replace z4 := z4.symm; replace z5 := z5.symm
    subst z2; subst z3; subst z4; subst z5
    refine VW.iload_n (pc' := 66) d_F_group_65 rfl rfl ?_
    refine VW.if_lt (tgt := 78) (pc' := 69) d_F_group_66 rfl rfl (fun c66 => ?_) (fun c66 => ?_)
    · refine VW.iconst (pc' := 79) d_F_group_78 rfl (by decide) ?_
      refine VW.callSX (pc' := 82) d_F_group_79 rfl (sp_F_demandRange0) rfl ms_F_demandRange.1 ms_F_demandRange.2.1 rfl ms_F_demandRange.2.2 lk_F_70 rfl rfl rfl (by decide) (by decide) (fun _ _ _ _ _ hz => ?_) (fun _ _ _ _ _ hz => by cases hz.1)
      obtain ⟨z1, z2, z3, z4, z5⟩ := hz
      cases z1
      replace z2 := z2.symm; replace z3 := z3.symm; replace z4 := z4.symm; replace z5 := z5.symm
      subst z2; subst z3; subst z4; subst z5
      exact Or.inl ⟨rfl, ex_rf⟩
      -- end
    · refine VW.iload_n (pc' := 70) d_F_group_69 rfl rfl ?_
      refine VW.iconst (pc' := 71) d_F_group_70 rfl (by decide) ?_
      refine VW.icmp_gt (tgt := 78) (pc' := 74) d_F_group_71 rfl rfl (fun c71 => ?_) (fun c71 => ?_)
      · refine VW.iconst (pc' := 79) d_F_group_78 rfl (by decide) ?_
        refine VW.callSX (pc' := 82) d_F_group_79 rfl (sp_F_demandRange0) rfl ms_F_demandRange.1 ms_F_demandRange.2.1 rfl ms_F_demandRange.2.2 lk_F_70 rfl rfl rfl (by decide) (by decide) (fun _ _ _ _ _ hz => ?_) (fun _ _ _ _ _ hz => by cases hz.1)
        obtain ⟨z1, z2, z3, z4, z5⟩ := hz
        cases z1
        replace z2 := z2.symm; replace z3 := z3.symm; replace z4 := z4.symm; replace z5 := z5.symm
        subst z2; subst z3; subst z4; subst z5
        exact Or.inl ⟨rfl, ex_rf⟩
        -- end
      · refine VW.nrm ?_
        exact absurd ⟨by omega, by omega⟩ h
theorem group_run (hC : ClW K P) (hp : P 1000 10 = some q) (hQ : QuW K P q) (hB : QuB I q) (ht : 1 ≤ I q 7 ∧ I q 0 < 12) (hc : c = -1 ∨ (0 ≤ c ∧ c < quLast I q)) (ho : w = 0 ∨ (0 ≤ o ∧ o < quLast I q)) (h0 : 0 ≤ I q 0) (h7 : I q 7 ≤ 6) (hw : 0 ≤ w ∧ w ≤ 3) {x : Int} (hx : x = if w = 0 then 0 else o) : Sp m_F_group true ({ frames := 12, cells := 0, slots := 0, locals := 400 } : Room) (ex K P J (quOne I q 6 2 c w x 0) (.inl (some (vI (quOne I q 6 2 c w x 0 q 7))))) K P J I [vR (some 1000), vI c, vI w, vI o] := by
  rcases hc with rfl | hc <;> rcases (show w = 0 ∨ (w ≠ 0 ∧ 0 ≤ o ∧ o < quLast I q) by omega) with rfl | ho2
  · rw [if_pos rfl] at hx; subst hx
    refine Sp.ofV (by decide) (Or.inl rfl) rfl ?_
    refine VW.aload_n (pc' := 1) d_F_group_0 rfl rfl ?_
    refine VW.gP (ci := 10) (T := T10) (N := 11) (k := 10) (k' := 10) (pc' := 4) d_F_group_1 rfl lk_F_66 in10 rfl rfl rfl rfl (by first | exact hC.k 0 rfl | exact hC.k 2 rfl | exact hC.k 3 rfl | exact hQ.k) (by first | exact hp | exact hC.p 0 rfl | exact hC.p 9 rfl | rfl) ?_
    refine VW.iconst (pc' := 5) d_F_group_4 rfl (by decide) ?_
    refine VW.cV (ci := 4) (T := T4) (N := 13) (pc' := 8) d_F_group_5 rfl mv_Query_takesOperator lk_F_238 rfl (by first | exact hC.k 0 rfl | exact hC.k 2 rfl | exact hC.k 3 rfl | exact hQ.k) rfl rfl rfl (by decide) (by decide) (tkY hQ ht) rfl rfl ?_
    refine VW.callSX (pc' := 11) d_F_group_8 rfl (sp_F_demandState1 (by decide)) rfl ms_F_demandState.1 ms_F_demandState.2.1 rfl ms_F_demandState.2.2 lk_F_82 rfl rfl rfl (by decide) (by decide) (fun _ _ _ _ _ hz => by cases hz.1) (fun r _ _ _ _ hz => ?_)
    obtain ⟨z1, z2, z3, z4, z5⟩ := hz
    cases z1
    replace z2 := z2.symm; replace z3 := z3.symm; replace z4 := z4.symm; replace z5 := z5.symm
    subst z2; subst z3; subst z4; subst z5
    refine VW.aload_n (pc' := 12) d_F_group_11 rfl rfl ?_
    refine VW.gP (ci := 10) (T := T10) (N := 11) (k := 10) (k' := 10) (pc' := 15) d_F_group_12 rfl lk_F_66 in10 rfl rfl rfl rfl (by first | exact hC.k 0 rfl | exact hC.k 2 rfl | exact hC.k 3 rfl | exact hQ.k) (by first | exact hp | exact hC.p 0 rfl | exact hC.p 9 rfl | rfl) ?_
    refine VW.cV (ci := 4) (T := T4) (N := 13) (pc' := 18) d_F_group_15 rfl mv_Query_lastWidth lk_F_241 rfl (by first | exact hC.k 0 rfl | exact hC.k 2 rfl | exact hC.k 3 rfl | exact hQ.k) rfl rfl rfl (by decide) (by decide) (sp_Query_lastWidth hQ hB) rfl rfl ?_
    refine VW.istore (pc' := 20) d_F_group_18 rfl rfl ?_
    refine VW.iload_n (pc' := 21) d_F_group_20 rfl rfl ?_
    refine VW.iconst (pc' := 22) d_F_group_21 rfl (by decide) ?_
    refine VW.icmp_eq (tgt := 35) (pc' := 25) d_F_group_22 rfl rfl (fun c22 => ?_) (fun c22 => ?_)
    case refine_2 => exact absurd c22 (fun z => z rfl)
    refine VW.iconst (pc' := 36) d_F_group_35 rfl (by decide) ?_
    refine VW.goto (pc' := 40) d_F_group_36 rfl ?_
    refine VW.callSX (pc' := 43) d_F_group_40 rfl (sp_F_demandPlace1 (by decide)) rfl ms_F_demandPlace.1 ms_F_demandPlace.2.1 rfl ms_F_demandPlace.2.2 lk_F_97 rfl rfl rfl (by decide) (by decide) (fun _ _ _ _ _ hz => by cases hz.1) (fun r _ _ _ _ hz => ?_)
    obtain ⟨z1, z2, z3, z4, z5⟩ := hz
    cases z1
    replace z2 := z2.symm; replace z3 := z3.symm; replace z4 := z4.symm; replace z5 := z5.symm
    subst z2; subst z3; subst z4; subst z5
    refine VW.iload_n (pc' := 44) d_F_group_43 rfl rfl ?_
    refine VW.if_eq (tgt := 57) (pc' := 47) d_F_group_44 rfl rfl (fun c44 => ?_) (fun c44 => ?_)
    case refine_2 => exact absurd c44 (fun z => z rfl)
    refine VW.iconst (pc' := 58) d_F_group_57 rfl (by decide) ?_
    refine VW.goto (pc' := 62) d_F_group_58 rfl ?_
    refine VW.callSX (pc' := 65) d_F_group_62 rfl (sp_F_demandPlace1 (by decide)) rfl ms_F_demandPlace.1 ms_F_demandPlace.2.1 rfl ms_F_demandPlace.2.2 lk_F_97 rfl rfl rfl (by decide) (by decide) (fun _ _ _ _ _ hz => by cases hz.1) (fun r _ _ _ _ hz => ?_)
    obtain ⟨z1, z2, z3, z4, z5⟩ := hz
    cases z1
    replace z2 := z2.symm; replace z3 := z3.symm; replace z4 := z4.symm; replace z5 := z5.symm
    subst z2; subst z3; subst z4; subst z5
    refine VW.iload_n (pc' := 66) d_F_group_65 rfl rfl ?_
    refine VW.if_lt (tgt := 78) (pc' := 69) d_F_group_66 rfl rfl (fun c66 => ?_) (fun c66 => ?_)
    case refine_1 => exact absurd c66 (by decide)
    refine VW.iload_n (pc' := 70) d_F_group_69 rfl rfl ?_
    refine VW.iconst (pc' := 71) d_F_group_70 rfl (by decide) ?_
    refine VW.icmp_gt (tgt := 78) (pc' := 74) d_F_group_71 rfl rfl (fun c71 => ?_) (fun c71 => ?_)
    case refine_1 => exact absurd c71 (by decide)
    refine VW.iconst (pc' := 75) d_F_group_74 rfl (by decide) ?_
    refine VW.goto (pc' := 79) d_F_group_75 rfl ?_
    refine VW.callSX (pc' := 82) d_F_group_79 rfl (sp_F_demandRange1 (by decide)) rfl ms_F_demandRange.1 ms_F_demandRange.2.1 rfl ms_F_demandRange.2.2 lk_F_70 rfl rfl rfl (by decide) (by decide) (fun _ _ _ _ _ hz => by cases hz.1) (fun r _ _ _ _ hz => ?_)
    obtain ⟨z1, z2, z3, z4, z5⟩ := hz
    cases z1
    replace z2 := z2.symm; replace z3 := z3.symm; replace z4 := z4.symm; replace z5 := z5.symm
    subst z2; subst z3; subst z4; subst z5
    refine VW.aload_n (pc' := 83) d_F_group_82 rfl rfl ?_
    refine VW.gP (ci := 10) (T := T10) (N := 11) (k := 10) (k' := 10) (pc' := 86) d_F_group_83 rfl lk_F_66 in10 rfl rfl rfl rfl (by first | exact hC.k 0 rfl | exact hC.k 2 rfl | exact hC.k 3 rfl | exact hQ.k) (by first | exact hp | exact hC.p 0 rfl | exact hC.p 9 rfl | rfl) ?_
    refine VW.bipush (pc' := 88) d_F_group_86 rfl (by decide) ?_
    refine VW.iconst (pc' := 89) d_F_group_88 rfl (by decide) ?_
    refine VW.iload_n (pc' := 90) d_F_group_89 rfl rfl ?_
    refine VW.iload_n (pc' := 91) d_F_group_90 rfl rfl ?_
    refine VW.iload_n (pc' := 92) d_F_group_91 rfl rfl ?_
    refine VW.if_ne (tgt := 99) (pc' := 95) d_F_group_92 rfl rfl (fun c92 => ?_) (fun c92 => ?_)
    case refine_1 => exact absurd c92 (fun z => z rfl)
    refine VW.iconst (pc' := 96) d_F_group_95 rfl (by decide) ?_
    refine VW.goto (pc' := 100) d_F_group_96 rfl ?_
    refine VW.iconst (pc' := 101) d_F_group_100 rfl (by decide) ?_
    refine VW.cV (ci := 4) (T := T4) (N := 13) (pc' := 104) d_F_group_101 rfl mv_Query_putOnLast lk_F_244 rfl (by first | exact hC.k 0 rfl | exact hC.k 2 rfl | exact hC.k 3 rfl | exact hQ.k) rfl rfl rfl (by decide) (by decide) (sp_Query_putOnLast hQ ⟨h0, ht.2⟩ ⟨ht.1, h7⟩) rfl rfl ?_
    refine VW.aload_n (pc' := 105) d_F_group_104 rfl rfl ?_
    refine VW.gP (ci := 10) (T := T10) (N := 11) (k := 10) (k' := 10) (pc' := 108) d_F_group_105 rfl lk_F_66 in10 rfl rfl rfl rfl (by first | exact hC.k 0 rfl | exact hC.k 2 rfl | exact hC.k 3 rfl | exact hQ.k) (by first | exact hp | exact hC.p 0 rfl | exact hC.p 9 rfl | rfl) ?_
    refine VW.gI (ci := 4) (T := T4) (N := 13) (k := 7) (k' := 7) (pc' := 111) d_F_group_108 rfl lk_F_228 in4 rfl rfl rfl rfl (by first | exact hC.k 0 rfl | exact hC.k 2 rfl | exact hC.k 3 rfl | exact hQ.k) (by first | exact hp | exact hC.p 0 rfl | exact hC.p 9 rfl | rfl) ?_
    exact VW.iret d_F_group_111 rfl rfl (by decide) (by decide) ex_rf
  · rw [if_neg ho2.1] at hx; subst hx
    refine Sp.ofV (by decide) (Or.inl rfl) rfl ?_
    refine VW.aload_n (pc' := 1) d_F_group_0 rfl rfl ?_
    refine VW.gP (ci := 10) (T := T10) (N := 11) (k := 10) (k' := 10) (pc' := 4) d_F_group_1 rfl lk_F_66 in10 rfl rfl rfl rfl (by first | exact hC.k 0 rfl | exact hC.k 2 rfl | exact hC.k 3 rfl | exact hQ.k) (by first | exact hp | exact hC.p 0 rfl | exact hC.p 9 rfl | rfl) ?_
    refine VW.iconst (pc' := 5) d_F_group_4 rfl (by decide) ?_
    refine VW.cV (ci := 4) (T := T4) (N := 13) (pc' := 8) d_F_group_5 rfl mv_Query_takesOperator lk_F_238 rfl (by first | exact hC.k 0 rfl | exact hC.k 2 rfl | exact hC.k 3 rfl | exact hQ.k) rfl rfl rfl (by decide) (by decide) (tkY hQ ht) rfl rfl ?_
    refine VW.callSX (pc' := 11) d_F_group_8 rfl (sp_F_demandState1 (by decide)) rfl ms_F_demandState.1 ms_F_demandState.2.1 rfl ms_F_demandState.2.2 lk_F_82 rfl rfl rfl (by decide) (by decide) (fun _ _ _ _ _ hz => by cases hz.1) (fun r _ _ _ _ hz => ?_)
    obtain ⟨z1, z2, z3, z4, z5⟩ := hz
    cases z1
    replace z2 := z2.symm; replace z3 := z3.symm; replace z4 := z4.symm; replace z5 := z5.symm
    subst z2; subst z3; subst z4; subst z5
    refine VW.aload_n (pc' := 12) d_F_group_11 rfl rfl ?_
    refine VW.gP (ci := 10) (T := T10) (N := 11) (k := 10) (k' := 10) (pc' := 15) d_F_group_12 rfl lk_F_66 in10 rfl rfl rfl rfl (by first | exact hC.k 0 rfl | exact hC.k 2 rfl | exact hC.k 3 rfl | exact hQ.k) (by first | exact hp | exact hC.p 0 rfl | exact hC.p 9 rfl | rfl) ?_
    refine VW.cV (ci := 4) (T := T4) (N := 13) (pc' := 18) d_F_group_15 rfl mv_Query_lastWidth lk_F_241 rfl (by first | exact hC.k 0 rfl | exact hC.k 2 rfl | exact hC.k 3 rfl | exact hQ.k) rfl rfl rfl (by decide) (by decide) (sp_Query_lastWidth hQ hB) rfl rfl ?_
    refine VW.istore (pc' := 20) d_F_group_18 rfl rfl ?_
    refine VW.iload_n (pc' := 21) d_F_group_20 rfl rfl ?_
    refine VW.iconst (pc' := 22) d_F_group_21 rfl (by decide) ?_
    refine VW.icmp_eq (tgt := 35) (pc' := 25) d_F_group_22 rfl rfl (fun c22 => ?_) (fun c22 => ?_)
    case refine_2 => exact absurd c22 (fun z => z rfl)
    refine VW.iconst (pc' := 36) d_F_group_35 rfl (by decide) ?_
    refine VW.goto (pc' := 40) d_F_group_36 rfl ?_
    refine VW.callSX (pc' := 43) d_F_group_40 rfl (sp_F_demandPlace1 (by decide)) rfl ms_F_demandPlace.1 ms_F_demandPlace.2.1 rfl ms_F_demandPlace.2.2 lk_F_97 rfl rfl rfl (by decide) (by decide) (fun _ _ _ _ _ hz => by cases hz.1) (fun r _ _ _ _ hz => ?_)
    obtain ⟨z1, z2, z3, z4, z5⟩ := hz
    cases z1
    replace z2 := z2.symm; replace z3 := z3.symm; replace z4 := z4.symm; replace z5 := z5.symm
    subst z2; subst z3; subst z4; subst z5
    refine VW.iload_n (pc' := 44) d_F_group_43 rfl rfl ?_
    refine VW.if_eq (tgt := 57) (pc' := 47) d_F_group_44 rfl rfl (fun c44 => ?_) (fun c44 => ?_)
    case refine_1 => exact absurd c44 (ho2.1)
    refine VW.iload_n (pc' := 48) d_F_group_47 rfl rfl ?_
    refine VW.if_lt (tgt := 61) (pc' := 51) d_F_group_48 rfl rfl (fun c48 => ?_) (fun c48 => ?_)
    case refine_1 => exact absurd c48 (by omega)
    refine VW.iload_n (pc' := 52) d_F_group_51 rfl rfl ?_
    refine VW.iload (pc' := 54) d_F_group_52 rfl rfl ?_
    refine VW.icmp_ge (tgt := 61) (pc' := 57) d_F_group_54 rfl rfl (fun c54 => ?_) (fun c54 => ?_)
    case refine_1 => exact absurd c54 (by omega)
    refine VW.iconst (pc' := 58) d_F_group_57 rfl (by decide) ?_
    refine VW.goto (pc' := 62) d_F_group_58 rfl ?_
    refine VW.callSX (pc' := 65) d_F_group_62 rfl (sp_F_demandPlace1 (by decide)) rfl ms_F_demandPlace.1 ms_F_demandPlace.2.1 rfl ms_F_demandPlace.2.2 lk_F_97 rfl rfl rfl (by decide) (by decide) (fun _ _ _ _ _ hz => by cases hz.1) (fun r _ _ _ _ hz => ?_)
    obtain ⟨z1, z2, z3, z4, z5⟩ := hz
    cases z1
    replace z2 := z2.symm; replace z3 := z3.symm; replace z4 := z4.symm; replace z5 := z5.symm
    subst z2; subst z3; subst z4; subst z5
    refine VW.iload_n (pc' := 66) d_F_group_65 rfl rfl ?_
    refine VW.if_lt (tgt := 78) (pc' := 69) d_F_group_66 rfl rfl (fun c66 => ?_) (fun c66 => ?_)
    case refine_1 => exact absurd c66 (by omega)
    refine VW.iload_n (pc' := 70) d_F_group_69 rfl rfl ?_
    refine VW.iconst (pc' := 71) d_F_group_70 rfl (by decide) ?_
    refine VW.icmp_gt (tgt := 78) (pc' := 74) d_F_group_71 rfl rfl (fun c71 => ?_) (fun c71 => ?_)
    case refine_1 => exact absurd c71 (by omega)
    refine VW.iconst (pc' := 75) d_F_group_74 rfl (by decide) ?_
    refine VW.goto (pc' := 79) d_F_group_75 rfl ?_
    refine VW.callSX (pc' := 82) d_F_group_79 rfl (sp_F_demandRange1 (by decide)) rfl ms_F_demandRange.1 ms_F_demandRange.2.1 rfl ms_F_demandRange.2.2 lk_F_70 rfl rfl rfl (by decide) (by decide) (fun _ _ _ _ _ hz => by cases hz.1) (fun r _ _ _ _ hz => ?_)
    obtain ⟨z1, z2, z3, z4, z5⟩ := hz
    cases z1
    replace z2 := z2.symm; replace z3 := z3.symm; replace z4 := z4.symm; replace z5 := z5.symm
    subst z2; subst z3; subst z4; subst z5
    refine VW.aload_n (pc' := 83) d_F_group_82 rfl rfl ?_
    refine VW.gP (ci := 10) (T := T10) (N := 11) (k := 10) (k' := 10) (pc' := 86) d_F_group_83 rfl lk_F_66 in10 rfl rfl rfl rfl (by first | exact hC.k 0 rfl | exact hC.k 2 rfl | exact hC.k 3 rfl | exact hQ.k) (by first | exact hp | exact hC.p 0 rfl | exact hC.p 9 rfl | rfl) ?_
    refine VW.bipush (pc' := 88) d_F_group_86 rfl (by decide) ?_
    refine VW.iconst (pc' := 89) d_F_group_88 rfl (by decide) ?_
    refine VW.iload_n (pc' := 90) d_F_group_89 rfl rfl ?_
    refine VW.iload_n (pc' := 91) d_F_group_90 rfl rfl ?_
    refine VW.iload_n (pc' := 92) d_F_group_91 rfl rfl ?_
    refine VW.if_ne (tgt := 99) (pc' := 95) d_F_group_92 rfl rfl (fun c92 => ?_) (fun c92 => ?_)
    case refine_2 => exact absurd c92 (ho2.1)
    refine VW.iload_n (pc' := 100) d_F_group_99 rfl rfl ?_
    refine VW.iconst (pc' := 101) d_F_group_100 rfl (by decide) ?_
    refine VW.cV (ci := 4) (T := T4) (N := 13) (pc' := 104) d_F_group_101 rfl mv_Query_putOnLast lk_F_244 rfl (by first | exact hC.k 0 rfl | exact hC.k 2 rfl | exact hC.k 3 rfl | exact hQ.k) rfl rfl rfl (by decide) (by decide) (sp_Query_putOnLast hQ ⟨h0, ht.2⟩ ⟨ht.1, h7⟩) rfl rfl ?_
    refine VW.aload_n (pc' := 105) d_F_group_104 rfl rfl ?_
    refine VW.gP (ci := 10) (T := T10) (N := 11) (k := 10) (k' := 10) (pc' := 108) d_F_group_105 rfl lk_F_66 in10 rfl rfl rfl rfl (by first | exact hC.k 0 rfl | exact hC.k 2 rfl | exact hC.k 3 rfl | exact hQ.k) (by first | exact hp | exact hC.p 0 rfl | exact hC.p 9 rfl | rfl) ?_
    refine VW.gI (ci := 4) (T := T4) (N := 13) (k := 7) (k' := 7) (pc' := 111) d_F_group_108 rfl lk_F_228 in4 rfl rfl rfl rfl (by first | exact hC.k 0 rfl | exact hC.k 2 rfl | exact hC.k 3 rfl | exact hQ.k) (by first | exact hp | exact hC.p 0 rfl | exact hC.p 9 rfl | rfl) ?_
    exact VW.iret d_F_group_111 rfl rfl (by decide) (by decide) ex_rf
  · rw [if_pos rfl] at hx; subst hx
    refine Sp.ofV (by decide) (Or.inl rfl) rfl ?_
    refine VW.aload_n (pc' := 1) d_F_group_0 rfl rfl ?_
    refine VW.gP (ci := 10) (T := T10) (N := 11) (k := 10) (k' := 10) (pc' := 4) d_F_group_1 rfl lk_F_66 in10 rfl rfl rfl rfl (by first | exact hC.k 0 rfl | exact hC.k 2 rfl | exact hC.k 3 rfl | exact hQ.k) (by first | exact hp | exact hC.p 0 rfl | exact hC.p 9 rfl | rfl) ?_
    refine VW.iconst (pc' := 5) d_F_group_4 rfl (by decide) ?_
    refine VW.cV (ci := 4) (T := T4) (N := 13) (pc' := 8) d_F_group_5 rfl mv_Query_takesOperator lk_F_238 rfl (by first | exact hC.k 0 rfl | exact hC.k 2 rfl | exact hC.k 3 rfl | exact hQ.k) rfl rfl rfl (by decide) (by decide) (tkY hQ ht) rfl rfl ?_
    refine VW.callSX (pc' := 11) d_F_group_8 rfl (sp_F_demandState1 (by decide)) rfl ms_F_demandState.1 ms_F_demandState.2.1 rfl ms_F_demandState.2.2 lk_F_82 rfl rfl rfl (by decide) (by decide) (fun _ _ _ _ _ hz => by cases hz.1) (fun r _ _ _ _ hz => ?_)
    obtain ⟨z1, z2, z3, z4, z5⟩ := hz
    cases z1
    replace z2 := z2.symm; replace z3 := z3.symm; replace z4 := z4.symm; replace z5 := z5.symm
    subst z2; subst z3; subst z4; subst z5
    refine VW.aload_n (pc' := 12) d_F_group_11 rfl rfl ?_
    refine VW.gP (ci := 10) (T := T10) (N := 11) (k := 10) (k' := 10) (pc' := 15) d_F_group_12 rfl lk_F_66 in10 rfl rfl rfl rfl (by first | exact hC.k 0 rfl | exact hC.k 2 rfl | exact hC.k 3 rfl | exact hQ.k) (by first | exact hp | exact hC.p 0 rfl | exact hC.p 9 rfl | rfl) ?_
    refine VW.cV (ci := 4) (T := T4) (N := 13) (pc' := 18) d_F_group_15 rfl mv_Query_lastWidth lk_F_241 rfl (by first | exact hC.k 0 rfl | exact hC.k 2 rfl | exact hC.k 3 rfl | exact hQ.k) rfl rfl rfl (by decide) (by decide) (sp_Query_lastWidth hQ hB) rfl rfl ?_
    refine VW.istore (pc' := 20) d_F_group_18 rfl rfl ?_
    refine VW.iload_n (pc' := 21) d_F_group_20 rfl rfl ?_
    refine VW.iconst (pc' := 22) d_F_group_21 rfl (by decide) ?_
    refine VW.icmp_eq (tgt := 35) (pc' := 25) d_F_group_22 rfl rfl (fun c22 => ?_) (fun c22 => ?_)
    case refine_1 => exact absurd c22 (by omega)
    refine VW.iload_n (pc' := 26) d_F_group_25 rfl rfl ?_
    refine VW.if_lt (tgt := 39) (pc' := 29) d_F_group_26 rfl rfl (fun c26 => ?_) (fun c26 => ?_)
    case refine_1 => exact absurd c26 (by omega)
    refine VW.iload_n (pc' := 30) d_F_group_29 rfl rfl ?_
    refine VW.iload (pc' := 32) d_F_group_30 rfl rfl ?_
    refine VW.icmp_ge (tgt := 39) (pc' := 35) d_F_group_32 rfl rfl (fun c32 => ?_) (fun c32 => ?_)
    case refine_1 => exact absurd c32 (by omega)
    refine VW.iconst (pc' := 36) d_F_group_35 rfl (by decide) ?_
    refine VW.goto (pc' := 40) d_F_group_36 rfl ?_
    refine VW.callSX (pc' := 43) d_F_group_40 rfl (sp_F_demandPlace1 (by decide)) rfl ms_F_demandPlace.1 ms_F_demandPlace.2.1 rfl ms_F_demandPlace.2.2 lk_F_97 rfl rfl rfl (by decide) (by decide) (fun _ _ _ _ _ hz => by cases hz.1) (fun r _ _ _ _ hz => ?_)
    obtain ⟨z1, z2, z3, z4, z5⟩ := hz
    cases z1
    replace z2 := z2.symm; replace z3 := z3.symm; replace z4 := z4.symm; replace z5 := z5.symm
    subst z2; subst z3; subst z4; subst z5
    refine VW.iload_n (pc' := 44) d_F_group_43 rfl rfl ?_
    refine VW.if_eq (tgt := 57) (pc' := 47) d_F_group_44 rfl rfl (fun c44 => ?_) (fun c44 => ?_)
    case refine_2 => exact absurd c44 (fun z => z rfl)
    refine VW.iconst (pc' := 58) d_F_group_57 rfl (by decide) ?_
    refine VW.goto (pc' := 62) d_F_group_58 rfl ?_
    refine VW.callSX (pc' := 65) d_F_group_62 rfl (sp_F_demandPlace1 (by decide)) rfl ms_F_demandPlace.1 ms_F_demandPlace.2.1 rfl ms_F_demandPlace.2.2 lk_F_97 rfl rfl rfl (by decide) (by decide) (fun _ _ _ _ _ hz => by cases hz.1) (fun r _ _ _ _ hz => ?_)
    obtain ⟨z1, z2, z3, z4, z5⟩ := hz
    cases z1
    replace z2 := z2.symm; replace z3 := z3.symm; replace z4 := z4.symm; replace z5 := z5.symm
    subst z2; subst z3; subst z4; subst z5
    refine VW.iload_n (pc' := 66) d_F_group_65 rfl rfl ?_
    refine VW.if_lt (tgt := 78) (pc' := 69) d_F_group_66 rfl rfl (fun c66 => ?_) (fun c66 => ?_)
    case refine_1 => exact absurd c66 (by decide)
    refine VW.iload_n (pc' := 70) d_F_group_69 rfl rfl ?_
    refine VW.iconst (pc' := 71) d_F_group_70 rfl (by decide) ?_
    refine VW.icmp_gt (tgt := 78) (pc' := 74) d_F_group_71 rfl rfl (fun c71 => ?_) (fun c71 => ?_)
    case refine_1 => exact absurd c71 (by decide)
    refine VW.iconst (pc' := 75) d_F_group_74 rfl (by decide) ?_
    refine VW.goto (pc' := 79) d_F_group_75 rfl ?_
    refine VW.callSX (pc' := 82) d_F_group_79 rfl (sp_F_demandRange1 (by decide)) rfl ms_F_demandRange.1 ms_F_demandRange.2.1 rfl ms_F_demandRange.2.2 lk_F_70 rfl rfl rfl (by decide) (by decide) (fun _ _ _ _ _ hz => by cases hz.1) (fun r _ _ _ _ hz => ?_)
    obtain ⟨z1, z2, z3, z4, z5⟩ := hz
    cases z1
    replace z2 := z2.symm; replace z3 := z3.symm; replace z4 := z4.symm; replace z5 := z5.symm
    subst z2; subst z3; subst z4; subst z5
    refine VW.aload_n (pc' := 83) d_F_group_82 rfl rfl ?_
    refine VW.gP (ci := 10) (T := T10) (N := 11) (k := 10) (k' := 10) (pc' := 86) d_F_group_83 rfl lk_F_66 in10 rfl rfl rfl rfl (by first | exact hC.k 0 rfl | exact hC.k 2 rfl | exact hC.k 3 rfl | exact hQ.k) (by first | exact hp | exact hC.p 0 rfl | exact hC.p 9 rfl | rfl) ?_
    refine VW.bipush (pc' := 88) d_F_group_86 rfl (by decide) ?_
    refine VW.iconst (pc' := 89) d_F_group_88 rfl (by decide) ?_
    refine VW.iload_n (pc' := 90) d_F_group_89 rfl rfl ?_
    refine VW.iload_n (pc' := 91) d_F_group_90 rfl rfl ?_
    refine VW.iload_n (pc' := 92) d_F_group_91 rfl rfl ?_
    refine VW.if_ne (tgt := 99) (pc' := 95) d_F_group_92 rfl rfl (fun c92 => ?_) (fun c92 => ?_)
    case refine_1 => exact absurd c92 (fun z => z rfl)
    refine VW.iconst (pc' := 96) d_F_group_95 rfl (by decide) ?_
    refine VW.goto (pc' := 100) d_F_group_96 rfl ?_
    refine VW.iconst (pc' := 101) d_F_group_100 rfl (by decide) ?_
    refine VW.cV (ci := 4) (T := T4) (N := 13) (pc' := 104) d_F_group_101 rfl mv_Query_putOnLast lk_F_244 rfl (by first | exact hC.k 0 rfl | exact hC.k 2 rfl | exact hC.k 3 rfl | exact hQ.k) rfl rfl rfl (by decide) (by decide) (sp_Query_putOnLast hQ ⟨h0, ht.2⟩ ⟨ht.1, h7⟩) rfl rfl ?_
    refine VW.aload_n (pc' := 105) d_F_group_104 rfl rfl ?_
    refine VW.gP (ci := 10) (T := T10) (N := 11) (k := 10) (k' := 10) (pc' := 108) d_F_group_105 rfl lk_F_66 in10 rfl rfl rfl rfl (by first | exact hC.k 0 rfl | exact hC.k 2 rfl | exact hC.k 3 rfl | exact hQ.k) (by first | exact hp | exact hC.p 0 rfl | exact hC.p 9 rfl | rfl) ?_
    refine VW.gI (ci := 4) (T := T4) (N := 13) (k := 7) (k' := 7) (pc' := 111) d_F_group_108 rfl lk_F_228 in4 rfl rfl rfl rfl (by first | exact hC.k 0 rfl | exact hC.k 2 rfl | exact hC.k 3 rfl | exact hQ.k) (by first | exact hp | exact hC.p 0 rfl | exact hC.p 9 rfl | rfl) ?_
    exact VW.iret d_F_group_111 rfl rfl (by decide) (by decide) ex_rf
  · rw [if_neg ho2.1] at hx; subst hx
    refine Sp.ofV (by decide) (Or.inl rfl) rfl ?_
    refine VW.aload_n (pc' := 1) d_F_group_0 rfl rfl ?_
    refine VW.gP (ci := 10) (T := T10) (N := 11) (k := 10) (k' := 10) (pc' := 4) d_F_group_1 rfl lk_F_66 in10 rfl rfl rfl rfl (by first | exact hC.k 0 rfl | exact hC.k 2 rfl | exact hC.k 3 rfl | exact hQ.k) (by first | exact hp | exact hC.p 0 rfl | exact hC.p 9 rfl | rfl) ?_
    refine VW.iconst (pc' := 5) d_F_group_4 rfl (by decide) ?_
    refine VW.cV (ci := 4) (T := T4) (N := 13) (pc' := 8) d_F_group_5 rfl mv_Query_takesOperator lk_F_238 rfl (by first | exact hC.k 0 rfl | exact hC.k 2 rfl | exact hC.k 3 rfl | exact hQ.k) rfl rfl rfl (by decide) (by decide) (tkY hQ ht) rfl rfl ?_
    refine VW.callSX (pc' := 11) d_F_group_8 rfl (sp_F_demandState1 (by decide)) rfl ms_F_demandState.1 ms_F_demandState.2.1 rfl ms_F_demandState.2.2 lk_F_82 rfl rfl rfl (by decide) (by decide) (fun _ _ _ _ _ hz => by cases hz.1) (fun r _ _ _ _ hz => ?_)
    obtain ⟨z1, z2, z3, z4, z5⟩ := hz
    cases z1
    replace z2 := z2.symm; replace z3 := z3.symm; replace z4 := z4.symm; replace z5 := z5.symm
    subst z2; subst z3; subst z4; subst z5
    refine VW.aload_n (pc' := 12) d_F_group_11 rfl rfl ?_
    refine VW.gP (ci := 10) (T := T10) (N := 11) (k := 10) (k' := 10) (pc' := 15) d_F_group_12 rfl lk_F_66 in10 rfl rfl rfl rfl (by first | exact hC.k 0 rfl | exact hC.k 2 rfl | exact hC.k 3 rfl | exact hQ.k) (by first | exact hp | exact hC.p 0 rfl | exact hC.p 9 rfl | rfl) ?_
    refine VW.cV (ci := 4) (T := T4) (N := 13) (pc' := 18) d_F_group_15 rfl mv_Query_lastWidth lk_F_241 rfl (by first | exact hC.k 0 rfl | exact hC.k 2 rfl | exact hC.k 3 rfl | exact hQ.k) rfl rfl rfl (by decide) (by decide) (sp_Query_lastWidth hQ hB) rfl rfl ?_
    refine VW.istore (pc' := 20) d_F_group_18 rfl rfl ?_
    refine VW.iload_n (pc' := 21) d_F_group_20 rfl rfl ?_
    refine VW.iconst (pc' := 22) d_F_group_21 rfl (by decide) ?_
    refine VW.icmp_eq (tgt := 35) (pc' := 25) d_F_group_22 rfl rfl (fun c22 => ?_) (fun c22 => ?_)
    case refine_1 => exact absurd c22 (by omega)
    refine VW.iload_n (pc' := 26) d_F_group_25 rfl rfl ?_
    refine VW.if_lt (tgt := 39) (pc' := 29) d_F_group_26 rfl rfl (fun c26 => ?_) (fun c26 => ?_)
    case refine_1 => exact absurd c26 (by omega)
    refine VW.iload_n (pc' := 30) d_F_group_29 rfl rfl ?_
    refine VW.iload (pc' := 32) d_F_group_30 rfl rfl ?_
    refine VW.icmp_ge (tgt := 39) (pc' := 35) d_F_group_32 rfl rfl (fun c32 => ?_) (fun c32 => ?_)
    case refine_1 => exact absurd c32 (by omega)
    refine VW.iconst (pc' := 36) d_F_group_35 rfl (by decide) ?_
    refine VW.goto (pc' := 40) d_F_group_36 rfl ?_
    refine VW.callSX (pc' := 43) d_F_group_40 rfl (sp_F_demandPlace1 (by decide)) rfl ms_F_demandPlace.1 ms_F_demandPlace.2.1 rfl ms_F_demandPlace.2.2 lk_F_97 rfl rfl rfl (by decide) (by decide) (fun _ _ _ _ _ hz => by cases hz.1) (fun r _ _ _ _ hz => ?_)
    obtain ⟨z1, z2, z3, z4, z5⟩ := hz
    cases z1
    replace z2 := z2.symm; replace z3 := z3.symm; replace z4 := z4.symm; replace z5 := z5.symm
    subst z2; subst z3; subst z4; subst z5
    refine VW.iload_n (pc' := 44) d_F_group_43 rfl rfl ?_
    refine VW.if_eq (tgt := 57) (pc' := 47) d_F_group_44 rfl rfl (fun c44 => ?_) (fun c44 => ?_)
    case refine_1 => exact absurd c44 (ho2.1)
    refine VW.iload_n (pc' := 48) d_F_group_47 rfl rfl ?_
    refine VW.if_lt (tgt := 61) (pc' := 51) d_F_group_48 rfl rfl (fun c48 => ?_) (fun c48 => ?_)
    case refine_1 => exact absurd c48 (by omega)
    refine VW.iload_n (pc' := 52) d_F_group_51 rfl rfl ?_
    refine VW.iload (pc' := 54) d_F_group_52 rfl rfl ?_
    refine VW.icmp_ge (tgt := 61) (pc' := 57) d_F_group_54 rfl rfl (fun c54 => ?_) (fun c54 => ?_)
    case refine_1 => exact absurd c54 (by omega)
    refine VW.iconst (pc' := 58) d_F_group_57 rfl (by decide) ?_
    refine VW.goto (pc' := 62) d_F_group_58 rfl ?_
    refine VW.callSX (pc' := 65) d_F_group_62 rfl (sp_F_demandPlace1 (by decide)) rfl ms_F_demandPlace.1 ms_F_demandPlace.2.1 rfl ms_F_demandPlace.2.2 lk_F_97 rfl rfl rfl (by decide) (by decide) (fun _ _ _ _ _ hz => by cases hz.1) (fun r _ _ _ _ hz => ?_)
    obtain ⟨z1, z2, z3, z4, z5⟩ := hz
    cases z1
    replace z2 := z2.symm; replace z3 := z3.symm; replace z4 := z4.symm; replace z5 := z5.symm
    subst z2; subst z3; subst z4; subst z5
    refine VW.iload_n (pc' := 66) d_F_group_65 rfl rfl ?_
    refine VW.if_lt (tgt := 78) (pc' := 69) d_F_group_66 rfl rfl (fun c66 => ?_) (fun c66 => ?_)
    case refine_1 => exact absurd c66 (by omega)
    refine VW.iload_n (pc' := 70) d_F_group_69 rfl rfl ?_
    refine VW.iconst (pc' := 71) d_F_group_70 rfl (by decide) ?_
    refine VW.icmp_gt (tgt := 78) (pc' := 74) d_F_group_71 rfl rfl (fun c71 => ?_) (fun c71 => ?_)
    case refine_1 => exact absurd c71 (by omega)
    refine VW.iconst (pc' := 75) d_F_group_74 rfl (by decide) ?_
    refine VW.goto (pc' := 79) d_F_group_75 rfl ?_
    refine VW.callSX (pc' := 82) d_F_group_79 rfl (sp_F_demandRange1 (by decide)) rfl ms_F_demandRange.1 ms_F_demandRange.2.1 rfl ms_F_demandRange.2.2 lk_F_70 rfl rfl rfl (by decide) (by decide) (fun _ _ _ _ _ hz => by cases hz.1) (fun r _ _ _ _ hz => ?_)
    obtain ⟨z1, z2, z3, z4, z5⟩ := hz
    cases z1
    replace z2 := z2.symm; replace z3 := z3.symm; replace z4 := z4.symm; replace z5 := z5.symm
    subst z2; subst z3; subst z4; subst z5
    refine VW.aload_n (pc' := 83) d_F_group_82 rfl rfl ?_
    refine VW.gP (ci := 10) (T := T10) (N := 11) (k := 10) (k' := 10) (pc' := 86) d_F_group_83 rfl lk_F_66 in10 rfl rfl rfl rfl (by first | exact hC.k 0 rfl | exact hC.k 2 rfl | exact hC.k 3 rfl | exact hQ.k) (by first | exact hp | exact hC.p 0 rfl | exact hC.p 9 rfl | rfl) ?_
    refine VW.bipush (pc' := 88) d_F_group_86 rfl (by decide) ?_
    refine VW.iconst (pc' := 89) d_F_group_88 rfl (by decide) ?_
    refine VW.iload_n (pc' := 90) d_F_group_89 rfl rfl ?_
    refine VW.iload_n (pc' := 91) d_F_group_90 rfl rfl ?_
    refine VW.iload_n (pc' := 92) d_F_group_91 rfl rfl ?_
    refine VW.if_ne (tgt := 99) (pc' := 95) d_F_group_92 rfl rfl (fun c92 => ?_) (fun c92 => ?_)
    case refine_2 => exact absurd c92 (ho2.1)
    refine VW.iload_n (pc' := 100) d_F_group_99 rfl rfl ?_
    refine VW.iconst (pc' := 101) d_F_group_100 rfl (by decide) ?_
    refine VW.cV (ci := 4) (T := T4) (N := 13) (pc' := 104) d_F_group_101 rfl mv_Query_putOnLast lk_F_244 rfl (by first | exact hC.k 0 rfl | exact hC.k 2 rfl | exact hC.k 3 rfl | exact hQ.k) rfl rfl rfl (by decide) (by decide) (sp_Query_putOnLast hQ ⟨h0, ht.2⟩ ⟨ht.1, h7⟩) rfl rfl ?_
    refine VW.aload_n (pc' := 105) d_F_group_104 rfl rfl ?_
    refine VW.gP (ci := 10) (T := T10) (N := 11) (k := 10) (k' := 10) (pc' := 108) d_F_group_105 rfl lk_F_66 in10 rfl rfl rfl rfl (by first | exact hC.k 0 rfl | exact hC.k 2 rfl | exact hC.k 3 rfl | exact hQ.k) (by first | exact hp | exact hC.p 0 rfl | exact hC.p 9 rfl | rfl) ?_
    refine VW.gI (ci := 4) (T := T4) (N := 13) (k := 7) (k' := 7) (pc' := 111) d_F_group_108 rfl lk_F_228 in4 rfl rfl rfl rfl (by first | exact hC.k 0 rfl | exact hC.k 2 rfl | exact hC.k 3 rfl | exact hQ.k) (by first | exact hp | exact hC.p 0 rfl | exact hC.p 9 rfl | rfl) ?_
    exact VW.iret d_F_group_111 rfl rfl (by decide) (by decide) ex_rf
theorem combine_no1 (hC : ClW K P) (hp : P 1000 10 = some q) (hQ : QuW K P q) (hB : QuB I q) (h : ¬ ((2 ≤ I q 7 ∧ I q 0 < 12) ∧ quEarl I q = quLast I q)) : Sp m_F_combine true ({ frames := 12, cells := 1, slots := 6, locals := 400 } : Room) (ex K P J I (.inr eISE)) K P J I [vR (some 1000), vI w] := by
  refine Sp.ofV (by decide) (Or.inl rfl) rfl ?_
  refine VW.aload_n (pc' := 1) d_F_combine_0 rfl rfl ?_
  refine VW.gP (ci := 10) (T := T10) (N := 11) (k := 10) (k' := 10) (pc' := 4) d_F_combine_1 rfl lk_F_66 in10 rfl rfl rfl rfl (by first | exact hC.k 0 rfl | exact hC.k 2 rfl | exact hC.k 3 rfl | exact hQ.k) (by first | exact hp | exact hC.p 0 rfl | exact hC.p 9 rfl | rfl) ?_
  refine VW.iconst (pc' := 5) d_F_combine_4 rfl (by decide) ?_
  refine VW.cV (ci := 4) (T := T4) (N := 13) (pc' := 8) d_F_combine_5 rfl mv_Query_takesOperator lk_F_238 rfl (by first | exact hC.k 0 rfl | exact hC.k 2 rfl | exact hC.k 3 rfl | exact hQ.k) rfl rfl rfl (by decide) (by decide) (sp_Query_takesOperator hQ) rfl rfl ?_
  refine VW.if_eq (tgt := 32) (pc' := 11) d_F_combine_8 rfl rfl (fun c8 => ?_) (fun c8 => ?_)
  · try have e8 := bIe c8
    refine VW.iconst (pc' := 33) d_F_combine_32 rfl (by decide) ?_
    refine VW.callSX (pc' := 36) d_F_combine_33 rfl (sp_F_demandState0) rfl ms_F_demandState.1 ms_F_demandState.2.1 rfl ms_F_demandState.2.2 lk_F_82 rfl rfl rfl (by decide) (by decide) (fun _ _ _ _ _ hz => ?_) (fun _ _ _ _ _ hz => by cases hz.1)
    obtain ⟨z1, z2, z3, z4, z5⟩ := hz
    cases z1
    replace z2 := z2.symm; replace z3 := z3.symm; replace z4 := z4.symm; replace z5 := z5.symm
    subst z2; subst z3; subst z4; subst z5
    exact Or.inl ⟨rfl, ex_rf⟩
    -- end
  · try have e8 := bIn c8
    refine VW.aload_n (pc' := 12) d_F_combine_11 rfl rfl ?_
    refine VW.gP (ci := 10) (T := T10) (N := 11) (k := 10) (k' := 10) (pc' := 15) d_F_combine_12 rfl lk_F_66 in10 rfl rfl rfl rfl (by first | exact hC.k 0 rfl | exact hC.k 2 rfl | exact hC.k 3 rfl | exact hQ.k) (by first | exact hp | exact hC.p 0 rfl | exact hC.p 9 rfl | rfl) ?_
    refine VW.cV (ci := 4) (T := T4) (N := 13) (pc' := 18) d_F_combine_15 rfl mv_Query_earlierWidth lk_F_248 rfl (by first | exact hC.k 0 rfl | exact hC.k 2 rfl | exact hC.k 3 rfl | exact hQ.k) rfl rfl rfl (by decide) (by decide) (sp_Query_earlierWidth hQ hB) rfl rfl ?_
    refine VW.aload_n (pc' := 19) d_F_combine_18 rfl rfl ?_
    refine VW.gP (ci := 10) (T := T10) (N := 11) (k := 10) (k' := 10) (pc' := 22) d_F_combine_19 rfl lk_F_66 in10 rfl rfl rfl rfl (by first | exact hC.k 0 rfl | exact hC.k 2 rfl | exact hC.k 3 rfl | exact hQ.k) (by first | exact hp | exact hC.p 0 rfl | exact hC.p 9 rfl | rfl) ?_
    refine VW.cV (ci := 4) (T := T4) (N := 13) (pc' := 25) d_F_combine_22 rfl mv_Query_lastWidth lk_F_241 rfl (by first | exact hC.k 0 rfl | exact hC.k 2 rfl | exact hC.k 3 rfl | exact hQ.k) rfl rfl rfl (by decide) (by decide) (sp_Query_lastWidth hQ hB) rfl rfl ?_
    refine VW.icmp_ne (tgt := 32) (pc' := 28) d_F_combine_25 rfl rfl (fun c25 => ?_) (fun c25 => ?_)
    · refine VW.iconst (pc' := 33) d_F_combine_32 rfl (by decide) ?_
      refine VW.callSX (pc' := 36) d_F_combine_33 rfl (sp_F_demandState0) rfl ms_F_demandState.1 ms_F_demandState.2.1 rfl ms_F_demandState.2.2 lk_F_82 rfl rfl rfl (by decide) (by decide) (fun _ _ _ _ _ hz => ?_) (fun _ _ _ _ _ hz => by cases hz.1)
      obtain ⟨z1, z2, z3, z4, z5⟩ := hz
      cases z1
      replace z2 := z2.symm; replace z3 := z3.symm; replace z4 := z4.symm; replace z5 := z5.symm
      subst z2; subst z3; subst z4; subst z5
      exact Or.inl ⟨rfl, ex_rf⟩
      -- end
    · refine VW.nrm ?_
      exact absurd ⟨e8, by omega⟩ h
theorem combine_no2 (hC : ClW K P) (hp : P 1000 10 = some q) (hQ : QuW K P q) (hB : QuB I q) (ht : 2 ≤ I q 7 ∧ I q 0 < 12) (he : quEarl I q = quLast I q) (h : ¬ (0 ≤ w ∧ w ≤ 2)) : Sp m_F_combine true ({ frames := 12, cells := 1, slots := 6, locals := 400 } : Room) (ex K P J I (.inr eIAE)) K P J I [vR (some 1000), vI w] := by
  refine Sp.ofV (by decide) (Or.inl rfl) rfl ?_
  refine VW.aload_n (pc' := 1) d_F_combine_0 rfl rfl ?_
  refine VW.gP (ci := 10) (T := T10) (N := 11) (k := 10) (k' := 10) (pc' := 4) d_F_combine_1 rfl lk_F_66 in10 rfl rfl rfl rfl (by first | exact hC.k 0 rfl | exact hC.k 2 rfl | exact hC.k 3 rfl | exact hQ.k) (by first | exact hp | exact hC.p 0 rfl | exact hC.p 9 rfl | rfl) ?_
  refine VW.iconst (pc' := 5) d_F_combine_4 rfl (by decide) ?_
  refine VW.cV (ci := 4) (T := T4) (N := 13) (pc' := 8) d_F_combine_5 rfl mv_Query_takesOperator lk_F_238 rfl (by first | exact hC.k 0 rfl | exact hC.k 2 rfl | exact hC.k 3 rfl | exact hQ.k) rfl rfl rfl (by decide) (by decide) (tkY hQ ht) rfl rfl ?_
  refine VW.if_eq (tgt := 32) (pc' := 11) d_F_combine_8 rfl rfl (fun c8 => ?_) (fun c8 => ?_)
  case refine_1 => exact absurd c8 (by decide)
  refine VW.aload_n (pc' := 12) d_F_combine_11 rfl rfl ?_
  refine VW.gP (ci := 10) (T := T10) (N := 11) (k := 10) (k' := 10) (pc' := 15) d_F_combine_12 rfl lk_F_66 in10 rfl rfl rfl rfl (by first | exact hC.k 0 rfl | exact hC.k 2 rfl | exact hC.k 3 rfl | exact hQ.k) (by first | exact hp | exact hC.p 0 rfl | exact hC.p 9 rfl | rfl) ?_
  refine VW.cV (ci := 4) (T := T4) (N := 13) (pc' := 18) d_F_combine_15 rfl mv_Query_earlierWidth lk_F_248 rfl (by first | exact hC.k 0 rfl | exact hC.k 2 rfl | exact hC.k 3 rfl | exact hQ.k) rfl rfl rfl (by decide) (by decide) (sp_Query_earlierWidth hQ hB) rfl rfl ?_
  refine VW.aload_n (pc' := 19) d_F_combine_18 rfl rfl ?_
  refine VW.gP (ci := 10) (T := T10) (N := 11) (k := 10) (k' := 10) (pc' := 22) d_F_combine_19 rfl lk_F_66 in10 rfl rfl rfl rfl (by first | exact hC.k 0 rfl | exact hC.k 2 rfl | exact hC.k 3 rfl | exact hQ.k) (by first | exact hp | exact hC.p 0 rfl | exact hC.p 9 rfl | rfl) ?_
  refine VW.cV (ci := 4) (T := T4) (N := 13) (pc' := 25) d_F_combine_22 rfl mv_Query_lastWidth lk_F_241 rfl (by first | exact hC.k 0 rfl | exact hC.k 2 rfl | exact hC.k 3 rfl | exact hQ.k) rfl rfl rfl (by decide) (by decide) (sp_Query_lastWidth hQ hB) rfl rfl ?_
  refine VW.icmp_ne (tgt := 32) (pc' := 28) d_F_combine_25 rfl rfl (fun c25 => ?_) (fun c25 => ?_)
  case refine_1 => exact absurd c25 (fun z => z he)
  refine VW.iconst (pc' := 29) d_F_combine_28 rfl (by decide) ?_
  refine VW.goto (pc' := 33) d_F_combine_29 rfl ?_
  refine VW.callSX (pc' := 36) d_F_combine_33 rfl (sp_F_demandState1 (by decide)) rfl ms_F_demandState.1 ms_F_demandState.2.1 rfl ms_F_demandState.2.2 lk_F_82 rfl rfl rfl (by decide) (by decide) (fun _ _ _ _ _ hz => by cases hz.1) (fun r _ _ _ _ hz => ?_)
  obtain ⟨z1, z2, z3, z4, z5⟩ := hz
  cases z1
  replace z2 := z2.symm; replace z3 := z3.symm; replace z4 := z4.symm; replace z5 := z5.symm
  subst z2; subst z3; subst z4; subst z5
  refine VW.iload_n (pc' := 37) d_F_combine_36 rfl rfl ?_
  refine VW.if_lt (tgt := 49) (pc' := 40) d_F_combine_37 rfl rfl (fun c37 => ?_) (fun c37 => ?_)
  · refine VW.iconst (pc' := 50) d_F_combine_49 rfl (by decide) ?_
    refine VW.callSX (pc' := 53) d_F_combine_50 rfl (sp_F_demandRange0) rfl ms_F_demandRange.1 ms_F_demandRange.2.1 rfl ms_F_demandRange.2.2 lk_F_70 rfl rfl rfl (by decide) (by decide) (fun _ _ _ _ _ hz => ?_) (fun _ _ _ _ _ hz => by cases hz.1)
    obtain ⟨z1, z2, z3, z4, z5⟩ := hz
    cases z1
    replace z2 := z2.symm; replace z3 := z3.symm; replace z4 := z4.symm; replace z5 := z5.symm
    subst z2; subst z3; subst z4; subst z5
    exact Or.inl ⟨rfl, ex_rf⟩
    -- end
  · refine VW.iload_n (pc' := 41) d_F_combine_40 rfl rfl ?_
    refine VW.iconst (pc' := 42) d_F_combine_41 rfl (by decide) ?_
    refine VW.icmp_gt (tgt := 49) (pc' := 45) d_F_combine_42 rfl rfl (fun c42 => ?_) (fun c42 => ?_)
    · refine VW.iconst (pc' := 50) d_F_combine_49 rfl (by decide) ?_
      refine VW.callSX (pc' := 53) d_F_combine_50 rfl (sp_F_demandRange0) rfl ms_F_demandRange.1 ms_F_demandRange.2.1 rfl ms_F_demandRange.2.2 lk_F_70 rfl rfl rfl (by decide) (by decide) (fun _ _ _ _ _ hz => ?_) (fun _ _ _ _ _ hz => by cases hz.1)
      obtain ⟨z1, z2, z3, z4, z5⟩ := hz
      cases z1
      replace z2 := z2.symm; replace z3 := z3.symm; replace z4 := z4.symm; replace z5 := z5.symm
      subst z2; subst z3; subst z4; subst z5
      exact Or.inl ⟨rfl, ex_rf⟩
      -- end
    · refine VW.nrm ?_
      exact absurd ⟨by omega, by omega⟩ h
theorem combine_run (hC : ClW K P) (hp : P 1000 10 = some q) (hQ : QuW K P q) (hB : QuB I q) (ht : 2 ≤ I q 7 ∧ I q 0 < 12) (he : quEarl I q = quLast I q) (h0 : 0 ≤ I q 0) (h7 : I q 7 ≤ 6) (hw : 0 ≤ w ∧ w ≤ 2) : Sp m_F_combine true ({ frames := 12, cells := 0, slots := 0, locals := 400 } : Room) (ex K P J (quTwo I q 7 (quLast I q) w 0 0) (.inl (some (vI (quTwo I q 7 (quLast I q) w 0 0 q 7))))) K P J I [vR (some 1000), vI w] := by
  refine Sp.ofV (by decide) (Or.inl rfl) rfl ?_
  refine VW.aload_n (pc' := 1) d_F_combine_0 rfl rfl ?_
  refine VW.gP (ci := 10) (T := T10) (N := 11) (k := 10) (k' := 10) (pc' := 4) d_F_combine_1 rfl lk_F_66 in10 rfl rfl rfl rfl (by first | exact hC.k 0 rfl | exact hC.k 2 rfl | exact hC.k 3 rfl | exact hQ.k) (by first | exact hp | exact hC.p 0 rfl | exact hC.p 9 rfl | rfl) ?_
  refine VW.iconst (pc' := 5) d_F_combine_4 rfl (by decide) ?_
  refine VW.cV (ci := 4) (T := T4) (N := 13) (pc' := 8) d_F_combine_5 rfl mv_Query_takesOperator lk_F_238 rfl (by first | exact hC.k 0 rfl | exact hC.k 2 rfl | exact hC.k 3 rfl | exact hQ.k) rfl rfl rfl (by decide) (by decide) (tkY hQ ht) rfl rfl ?_
  refine VW.if_eq (tgt := 32) (pc' := 11) d_F_combine_8 rfl rfl (fun c8 => ?_) (fun c8 => ?_)
  case refine_1 => exact absurd c8 (by decide)
  refine VW.aload_n (pc' := 12) d_F_combine_11 rfl rfl ?_
  refine VW.gP (ci := 10) (T := T10) (N := 11) (k := 10) (k' := 10) (pc' := 15) d_F_combine_12 rfl lk_F_66 in10 rfl rfl rfl rfl (by first | exact hC.k 0 rfl | exact hC.k 2 rfl | exact hC.k 3 rfl | exact hQ.k) (by first | exact hp | exact hC.p 0 rfl | exact hC.p 9 rfl | rfl) ?_
  refine VW.cV (ci := 4) (T := T4) (N := 13) (pc' := 18) d_F_combine_15 rfl mv_Query_earlierWidth lk_F_248 rfl (by first | exact hC.k 0 rfl | exact hC.k 2 rfl | exact hC.k 3 rfl | exact hQ.k) rfl rfl rfl (by decide) (by decide) (sp_Query_earlierWidth hQ hB) rfl rfl ?_
  refine VW.aload_n (pc' := 19) d_F_combine_18 rfl rfl ?_
  refine VW.gP (ci := 10) (T := T10) (N := 11) (k := 10) (k' := 10) (pc' := 22) d_F_combine_19 rfl lk_F_66 in10 rfl rfl rfl rfl (by first | exact hC.k 0 rfl | exact hC.k 2 rfl | exact hC.k 3 rfl | exact hQ.k) (by first | exact hp | exact hC.p 0 rfl | exact hC.p 9 rfl | rfl) ?_
  refine VW.cV (ci := 4) (T := T4) (N := 13) (pc' := 25) d_F_combine_22 rfl mv_Query_lastWidth lk_F_241 rfl (by first | exact hC.k 0 rfl | exact hC.k 2 rfl | exact hC.k 3 rfl | exact hQ.k) rfl rfl rfl (by decide) (by decide) (sp_Query_lastWidth hQ hB) rfl rfl ?_
  refine VW.icmp_ne (tgt := 32) (pc' := 28) d_F_combine_25 rfl rfl (fun c25 => ?_) (fun c25 => ?_)
  case refine_1 => exact absurd c25 (fun z => z he)
  refine VW.iconst (pc' := 29) d_F_combine_28 rfl (by decide) ?_
  refine VW.goto (pc' := 33) d_F_combine_29 rfl ?_
  refine VW.callSX (pc' := 36) d_F_combine_33 rfl (sp_F_demandState1 (by decide)) rfl ms_F_demandState.1 ms_F_demandState.2.1 rfl ms_F_demandState.2.2 lk_F_82 rfl rfl rfl (by decide) (by decide) (fun _ _ _ _ _ hz => by cases hz.1) (fun r _ _ _ _ hz => ?_)
  obtain ⟨z1, z2, z3, z4, z5⟩ := hz
  cases z1
  replace z2 := z2.symm; replace z3 := z3.symm; replace z4 := z4.symm; replace z5 := z5.symm
  subst z2; subst z3; subst z4; subst z5
  refine VW.iload_n (pc' := 37) d_F_combine_36 rfl rfl ?_
  refine VW.if_lt (tgt := 49) (pc' := 40) d_F_combine_37 rfl rfl (fun c37 => ?_) (fun c37 => ?_)
  case refine_1 => exact absurd c37 (by omega)
  refine VW.iload_n (pc' := 41) d_F_combine_40 rfl rfl ?_
  refine VW.iconst (pc' := 42) d_F_combine_41 rfl (by decide) ?_
  refine VW.icmp_gt (tgt := 49) (pc' := 45) d_F_combine_42 rfl rfl (fun c42 => ?_) (fun c42 => ?_)
  case refine_1 => exact absurd c42 (by omega)
  refine VW.iconst (pc' := 46) d_F_combine_45 rfl (by decide) ?_
  refine VW.goto (pc' := 50) d_F_combine_46 rfl ?_
  refine VW.callSX (pc' := 53) d_F_combine_50 rfl (sp_F_demandRange1 (by decide)) rfl ms_F_demandRange.1 ms_F_demandRange.2.1 rfl ms_F_demandRange.2.2 lk_F_70 rfl rfl rfl (by decide) (by decide) (fun _ _ _ _ _ hz => by cases hz.1) (fun r _ _ _ _ hz => ?_)
  obtain ⟨z1, z2, z3, z4, z5⟩ := hz
  cases z1
  replace z2 := z2.symm; replace z3 := z3.symm; replace z4 := z4.symm; replace z5 := z5.symm
  subst z2; subst z3; subst z4; subst z5
  refine VW.aload_n (pc' := 54) d_F_combine_53 rfl rfl ?_
  refine VW.gP (ci := 10) (T := T10) (N := 11) (k := 10) (k' := 10) (pc' := 57) d_F_combine_54 rfl lk_F_66 in10 rfl rfl rfl rfl (by first | exact hC.k 0 rfl | exact hC.k 2 rfl | exact hC.k 3 rfl | exact hQ.k) (by first | exact hp | exact hC.p 0 rfl | exact hC.p 9 rfl | rfl) ?_
  refine VW.bipush (pc' := 59) d_F_combine_57 rfl (by decide) ?_
  refine VW.aload_n (pc' := 60) d_F_combine_59 rfl rfl ?_
  refine VW.gP (ci := 10) (T := T10) (N := 11) (k := 10) (k' := 10) (pc' := 63) d_F_combine_60 rfl lk_F_66 in10 rfl rfl rfl rfl (by first | exact hC.k 0 rfl | exact hC.k 2 rfl | exact hC.k 3 rfl | exact hQ.k) (by first | exact hp | exact hC.p 0 rfl | exact hC.p 9 rfl | rfl) ?_
  refine VW.cV (ci := 4) (T := T4) (N := 13) (pc' := 66) d_F_combine_63 rfl mv_Query_lastWidth lk_F_241 rfl (by first | exact hC.k 0 rfl | exact hC.k 2 rfl | exact hC.k 3 rfl | exact hQ.k) rfl rfl rfl (by decide) (by decide) (sp_Query_lastWidth hQ hB) rfl rfl ?_
  refine VW.iload_n (pc' := 67) d_F_combine_66 rfl rfl ?_
  refine VW.iconst (pc' := 68) d_F_combine_67 rfl (by decide) ?_
  refine VW.iconst (pc' := 69) d_F_combine_68 rfl (by decide) ?_
  refine VW.cV (ci := 4) (T := T4) (N := 13) (pc' := 72) d_F_combine_69 rfl mv_Query_putOnTwo lk_F_251 rfl (by first | exact hC.k 0 rfl | exact hC.k 2 rfl | exact hC.k 3 rfl | exact hQ.k) rfl rfl rfl (by decide) (by decide) (sp_Query_putOnTwo hQ ⟨h0, ht.2⟩ ⟨ht.1, h7⟩) rfl rfl ?_
  refine VW.aload_n (pc' := 73) d_F_combine_72 rfl rfl ?_
  refine VW.gP (ci := 10) (T := T10) (N := 11) (k := 10) (k' := 10) (pc' := 76) d_F_combine_73 rfl lk_F_66 in10 rfl rfl rfl rfl (by first | exact hC.k 0 rfl | exact hC.k 2 rfl | exact hC.k 3 rfl | exact hQ.k) (by first | exact hp | exact hC.p 0 rfl | exact hC.p 9 rfl | rfl) ?_
  refine VW.gI (ci := 4) (T := T4) (N := 13) (k := 7) (k' := 7) (pc' := 79) d_F_combine_76 rfl lk_F_228 in4 rfl rfl rfl rfl (by first | exact hC.k 0 rfl | exact hC.k 2 rfl | exact hC.k 3 rfl | exact hQ.k) (by first | exact hp | exact hC.p 0 rfl | exact hC.p 9 rfl | rfl) ?_
  exact VW.iret d_F_combine_79 rfl rfl (by decide) (by decide) ex_rf
theorem join_no1a (hC : ClW K P) (hp : P 1000 10 = some q) (hQ : QuW K P q) (h : ¬ (2 ≤ I q 7 ∧ I q 0 < 12)) : Sp m_F_join true ({ frames := 12, cells := 1, slots := 6, locals := 400 } : Room) (ex K P J I (.inr eISE)) K P J I [vR (some 1000), vI w, vI c, vI o] := by
  refine Sp.ofV (by decide) (Or.inl rfl) rfl ?_
  refine VW.aload_n (pc' := 1) d_F_join_0 rfl rfl ?_
  refine VW.gP (ci := 10) (T := T10) (N := 11) (k := 10) (k' := 10) (pc' := 4) d_F_join_1 rfl lk_F_66 in10 rfl rfl rfl rfl (by first | exact hC.k 0 rfl | exact hC.k 2 rfl | exact hC.k 3 rfl | exact hQ.k) (by first | exact hp | exact hC.p 0 rfl | exact hC.p 9 rfl | rfl) ?_
  refine VW.iconst (pc' := 5) d_F_join_4 rfl (by decide) ?_
  refine VW.cV (ci := 4) (T := T4) (N := 13) (pc' := 8) d_F_join_5 rfl mv_Query_takesOperator lk_F_238 rfl (by first | exact hC.k 0 rfl | exact hC.k 2 rfl | exact hC.k 3 rfl | exact hQ.k) rfl rfl rfl (by decide) (by decide) (tkN hQ h) rfl rfl ?_
  refine VW.callSX (pc' := 11) d_F_join_8 rfl (sp_F_demandState0) rfl ms_F_demandState.1 ms_F_demandState.2.1 rfl ms_F_demandState.2.2 lk_F_82 rfl rfl rfl (by decide) (by decide) (fun _ _ _ _ _ hz => ?_) (fun _ _ _ _ _ hz => by cases hz.1)
  obtain ⟨z1, z2, z3, z4, z5⟩ := hz
  cases z1
  replace z2 := z2.symm; replace z3 := z3.symm; replace z4 := z4.symm; replace z5 := z5.symm
  subst z2; subst z3; subst z4; subst z5
  exact Or.inl ⟨rfl, ex_rf⟩
  -- end
theorem join_no1b (hC : ClW K P) (hp : P 1000 10 = some q) (hQ : QuW K P q) (hB : QuB I q) (ht : 2 ≤ I q 7 ∧ I q 0 < 12) (hl : 0 ≤ quLast I q ∧ quLast I q ≤ 10) (he : 0 ≤ quEarl I q ∧ quEarl I q ≤ 10) (hw : w ≠ 3 ∧ w ≠ 4) (h : ¬ (quEarl I q + quLast I q ≤ 10)) : Sp m_F_join true ({ frames := 12, cells := 1, slots := 6, locals := 400 } : Room) (ex K P J I (.inr eISE)) K P J I [vR (some 1000), vI w, vI c, vI o] := by
  refine Sp.ofV (by decide) (Or.inl rfl) rfl ?_
  refine VW.aload_n (pc' := 1) d_F_join_0 rfl rfl ?_
  refine VW.gP (ci := 10) (T := T10) (N := 11) (k := 10) (k' := 10) (pc' := 4) d_F_join_1 rfl lk_F_66 in10 rfl rfl rfl rfl (by first | exact hC.k 0 rfl | exact hC.k 2 rfl | exact hC.k 3 rfl | exact hQ.k) (by first | exact hp | exact hC.p 0 rfl | exact hC.p 9 rfl | rfl) ?_
  refine VW.iconst (pc' := 5) d_F_join_4 rfl (by decide) ?_
  refine VW.cV (ci := 4) (T := T4) (N := 13) (pc' := 8) d_F_join_5 rfl mv_Query_takesOperator lk_F_238 rfl (by first | exact hC.k 0 rfl | exact hC.k 2 rfl | exact hC.k 3 rfl | exact hQ.k) rfl rfl rfl (by decide) (by decide) (tkY hQ ht) rfl rfl ?_
  refine VW.callSX (pc' := 11) d_F_join_8 rfl (sp_F_demandState1 (by decide)) rfl ms_F_demandState.1 ms_F_demandState.2.1 rfl ms_F_demandState.2.2 lk_F_82 rfl rfl rfl (by decide) (by decide) (fun _ _ _ _ _ hz => by cases hz.1) (fun r _ _ _ _ hz => ?_)
  obtain ⟨z1, z2, z3, z4, z5⟩ := hz
  cases z1
  replace z2 := z2.symm; replace z3 := z3.symm; replace z4 := z4.symm; replace z5 := z5.symm
  subst z2; subst z3; subst z4; subst z5
  refine VW.iload_n (pc' := 12) d_F_join_11 rfl rfl ?_
  refine VW.iconst (pc' := 13) d_F_join_12 rfl (by decide) ?_
  refine VW.icmp_eq (tgt := 21) (pc' := 16) d_F_join_13 rfl rfl (fun c13 => ?_) (fun c13 => ?_)
  case refine_1 => exact absurd c13 (hw.1)
  refine VW.iload_n (pc' := 17) d_F_join_16 rfl rfl ?_
  refine VW.iconst (pc' := 18) d_F_join_17 rfl (by decide) ?_
  refine VW.icmp_ne (tgt := 25) (pc' := 21) d_F_join_18 rfl rfl (fun c18 => ?_) (fun c18 => ?_)
  case refine_2 => exact absurd c18 (hw.2)
  refine VW.iconst (pc' := 26) d_F_join_25 rfl (by decide) ?_
  refine VW.istore (pc' := 28) d_F_join_26 rfl rfl ?_
  refine VW.aload_n (pc' := 29) d_F_join_28 rfl rfl ?_
  refine VW.gP (ci := 10) (T := T10) (N := 11) (k := 10) (k' := 10) (pc' := 32) d_F_join_29 rfl lk_F_66 in10 rfl rfl rfl rfl (by first | exact hC.k 0 rfl | exact hC.k 2 rfl | exact hC.k 3 rfl | exact hQ.k) (by first | exact hp | exact hC.p 0 rfl | exact hC.p 9 rfl | rfl) ?_
  refine VW.cV (ci := 4) (T := T4) (N := 13) (pc' := 35) d_F_join_32 rfl mv_Query_earlierWidth lk_F_248 rfl (by first | exact hC.k 0 rfl | exact hC.k 2 rfl | exact hC.k 3 rfl | exact hQ.k) rfl rfl rfl (by decide) (by decide) (sp_Query_earlierWidth hQ hB) rfl rfl ?_
  refine VW.istore (pc' := 37) d_F_join_35 rfl rfl ?_
  refine VW.aload_n (pc' := 38) d_F_join_37 rfl rfl ?_
  refine VW.gP (ci := 10) (T := T10) (N := 11) (k := 10) (k' := 10) (pc' := 41) d_F_join_38 rfl lk_F_66 in10 rfl rfl rfl rfl (by first | exact hC.k 0 rfl | exact hC.k 2 rfl | exact hC.k 3 rfl | exact hQ.k) (by first | exact hp | exact hC.p 0 rfl | exact hC.p 9 rfl | rfl) ?_
  refine VW.cV (ci := 4) (T := T4) (N := 13) (pc' := 44) d_F_join_41 rfl mv_Query_lastWidth lk_F_241 rfl (by first | exact hC.k 0 rfl | exact hC.k 2 rfl | exact hC.k 3 rfl | exact hQ.k) rfl rfl rfl (by decide) (by decide) (sp_Query_lastWidth hQ hB) rfl rfl ?_
  refine VW.istore (pc' := 46) d_F_join_44 rfl rfl ?_
  refine VW.iload (pc' := 48) d_F_join_46 rfl rfl ?_
  refine VW.if_ne (tgt := 61) (pc' := 51) d_F_join_48 rfl rfl (fun c48 => absurd c48 (by decide)) (fun _ => ?_)
  refine VW.iload (pc' := 53) d_F_join_51 rfl rfl ?_
  refine VW.iload (pc' := 55) d_F_join_53 rfl rfl ?_
  refine VW.iadd (pc' := 56) d_F_join_55 rfl (by omega) ?_
  refine VW.bipush (pc' := 58) d_F_join_56 rfl (by decide) ?_
  refine VW.icmp_gt (tgt := 65) (pc' := 61) d_F_join_58 rfl rfl (fun c58 => ?_) (fun c58 => ?_)
  case refine_2 => exact absurd c58 (by omega)
  refine VW.iconst (pc' := 66) d_F_join_65 rfl (by decide) ?_
  refine VW.callSX (pc' := 69) d_F_join_66 rfl (sp_F_demandState0) rfl ms_F_demandState.1 ms_F_demandState.2.1 rfl ms_F_demandState.2.2 lk_F_82 rfl rfl rfl (by decide) (by decide) (fun _ _ _ _ _ hz => ?_) (fun _ _ _ _ _ hz => by cases hz.1)
  obtain ⟨z1, z2, z3, z4, z5⟩ := hz
  cases z1
  replace z2 := z2.symm; replace z3 := z3.symm; replace z4 := z4.symm; replace z5 := z5.symm
  subst z2; subst z3; subst z4; subst z5
  exact Or.inl ⟨rfl, ex_rf⟩
  -- end
theorem join_no2 (hC : ClW K P) (hp : P 1000 10 = some q) (hQ : QuW K P q) (hB : QuB I q) (ht : 2 ≤ I q 7 ∧ I q 0 < 12) (hl : 0 ≤ quLast I q ∧ quLast I q ≤ 10) (he : 0 ≤ quEarl I q ∧ quEarl I q ≤ 10) (hw : w = 3 ∨ w = 4 ∨ ((w ≠ 3 ∧ w ≠ 4) ∧ quEarl I q + quLast I q ≤ 10)) (h : ¬ ((0 ≤ c ∧ c < quEarl I q) ∧ 0 ≤ o ∧ o < quLast I q)) : Sp m_F_join true ({ frames := 12, cells := 1, slots := 6, locals := 400 } : Room) (ex K P J I (.inr eIOO)) K P J I [vR (some 1000), vI w, vI c, vI o] := by
  rcases hw with rfl | rfl | hw
  all_goals refine Sp.ofV (by decide) (Or.inl rfl) rfl ?_
  · refine VW.aload_n (pc' := 1) d_F_join_0 rfl rfl ?_
    refine VW.gP (ci := 10) (T := T10) (N := 11) (k := 10) (k' := 10) (pc' := 4) d_F_join_1 rfl lk_F_66 in10 rfl rfl rfl rfl (by first | exact hC.k 0 rfl | exact hC.k 2 rfl | exact hC.k 3 rfl | exact hQ.k) (by first | exact hp | exact hC.p 0 rfl | exact hC.p 9 rfl | rfl) ?_
    refine VW.iconst (pc' := 5) d_F_join_4 rfl (by decide) ?_
    refine VW.cV (ci := 4) (T := T4) (N := 13) (pc' := 8) d_F_join_5 rfl mv_Query_takesOperator lk_F_238 rfl (by first | exact hC.k 0 rfl | exact hC.k 2 rfl | exact hC.k 3 rfl | exact hQ.k) rfl rfl rfl (by decide) (by decide) (tkY hQ ht) rfl rfl ?_
    refine VW.callSX (pc' := 11) d_F_join_8 rfl (sp_F_demandState1 (by decide)) rfl ms_F_demandState.1 ms_F_demandState.2.1 rfl ms_F_demandState.2.2 lk_F_82 rfl rfl rfl (by decide) (by decide) (fun _ _ _ _ _ hz => by cases hz.1) (fun r _ _ _ _ hz => ?_)
    obtain ⟨z1, z2, z3, z4, z5⟩ := hz
    cases z1
    replace z2 := z2.symm; replace z3 := z3.symm; replace z4 := z4.symm; replace z5 := z5.symm
    subst z2; subst z3; subst z4; subst z5
    refine VW.iload_n (pc' := 12) d_F_join_11 rfl rfl ?_
    refine VW.iconst (pc' := 13) d_F_join_12 rfl (by decide) ?_
    refine VW.icmp_eq (tgt := 21) (pc' := 16) d_F_join_13 rfl rfl (fun c13 => ?_) (fun c13 => ?_)
    case refine_2 => exact absurd c13 (fun z => z rfl)
    refine VW.iconst (pc' := 22) d_F_join_21 rfl (by decide) ?_
    refine VW.goto (pc' := 26) d_F_join_22 rfl ?_
    refine VW.istore (pc' := 28) d_F_join_26 rfl rfl ?_
    refine VW.aload_n (pc' := 29) d_F_join_28 rfl rfl ?_
    refine VW.gP (ci := 10) (T := T10) (N := 11) (k := 10) (k' := 10) (pc' := 32) d_F_join_29 rfl lk_F_66 in10 rfl rfl rfl rfl (by first | exact hC.k 0 rfl | exact hC.k 2 rfl | exact hC.k 3 rfl | exact hQ.k) (by first | exact hp | exact hC.p 0 rfl | exact hC.p 9 rfl | rfl) ?_
    refine VW.cV (ci := 4) (T := T4) (N := 13) (pc' := 35) d_F_join_32 rfl mv_Query_earlierWidth lk_F_248 rfl (by first | exact hC.k 0 rfl | exact hC.k 2 rfl | exact hC.k 3 rfl | exact hQ.k) rfl rfl rfl (by decide) (by decide) (sp_Query_earlierWidth hQ hB) rfl rfl ?_
    refine VW.istore (pc' := 37) d_F_join_35 rfl rfl ?_
    refine VW.aload_n (pc' := 38) d_F_join_37 rfl rfl ?_
    refine VW.gP (ci := 10) (T := T10) (N := 11) (k := 10) (k' := 10) (pc' := 41) d_F_join_38 rfl lk_F_66 in10 rfl rfl rfl rfl (by first | exact hC.k 0 rfl | exact hC.k 2 rfl | exact hC.k 3 rfl | exact hQ.k) (by first | exact hp | exact hC.p 0 rfl | exact hC.p 9 rfl | rfl) ?_
    refine VW.cV (ci := 4) (T := T4) (N := 13) (pc' := 44) d_F_join_41 rfl mv_Query_lastWidth lk_F_241 rfl (by first | exact hC.k 0 rfl | exact hC.k 2 rfl | exact hC.k 3 rfl | exact hQ.k) rfl rfl rfl (by decide) (by decide) (sp_Query_lastWidth hQ hB) rfl rfl ?_
    refine VW.istore (pc' := 46) d_F_join_44 rfl rfl ?_
    refine VW.iload (pc' := 48) d_F_join_46 rfl rfl ?_
    refine VW.if_ne (tgt := 61) (pc' := 51) d_F_join_48 rfl rfl (fun _ => ?_) (fun c48 => absurd c48 (by decide))
    refine VW.iconst (pc' := 62) d_F_join_61 rfl (by decide) ?_
    refine VW.goto (pc' := 66) d_F_join_62 rfl ?_
    refine VW.callSX (pc' := 69) d_F_join_66 rfl (sp_F_demandState1 (by decide)) rfl ms_F_demandState.1 ms_F_demandState.2.1 rfl ms_F_demandState.2.2 lk_F_82 rfl rfl rfl (by decide) (by decide) (fun _ _ _ _ _ hz => by cases hz.1) (fun r _ _ _ _ hz => ?_)
    obtain ⟨z1, z2, z3, z4, z5⟩ := hz
    cases z1
    replace z2 := z2.symm; replace z3 := z3.symm; replace z4 := z4.symm; replace z5 := z5.symm
    subst z2; subst z3; subst z4; subst z5
    refine VW.iload_n (pc' := 70) d_F_join_69 rfl rfl ?_
    refine VW.if_lt (tgt := 93) (pc' := 73) d_F_join_70 rfl rfl (fun c70 => ?_) (fun c70 => ?_)
    · refine VW.iconst (pc' := 94) d_F_join_93 rfl (by decide) ?_
      refine VW.callSX (pc' := 97) d_F_join_94 rfl (sp_F_demandPlace0) rfl ms_F_demandPlace.1 ms_F_demandPlace.2.1 rfl ms_F_demandPlace.2.2 lk_F_97 rfl rfl rfl (by decide) (by decide) (fun _ _ _ _ _ hz => ?_) (fun _ _ _ _ _ hz => by cases hz.1)
      obtain ⟨z1, z2, z3, z4, z5⟩ := hz
      cases z1
      replace z2 := z2.symm; replace z3 := z3.symm; replace z4 := z4.symm; replace z5 := z5.symm
      subst z2; subst z3; subst z4; subst z5
      exact Or.inl ⟨rfl, ex_rf⟩
      -- end
    · refine VW.iload_n (pc' := 74) d_F_join_73 rfl rfl ?_
      refine VW.iload (pc' := 76) d_F_join_74 rfl rfl ?_
      refine VW.icmp_ge (tgt := 93) (pc' := 79) d_F_join_76 rfl rfl (fun c76 => ?_) (fun c76 => ?_)
      · refine VW.iconst (pc' := 94) d_F_join_93 rfl (by decide) ?_
        refine VW.callSX (pc' := 97) d_F_join_94 rfl (sp_F_demandPlace0) rfl ms_F_demandPlace.1 ms_F_demandPlace.2.1 rfl ms_F_demandPlace.2.2 lk_F_97 rfl rfl rfl (by decide) (by decide) (fun _ _ _ _ _ hz => ?_) (fun _ _ _ _ _ hz => by cases hz.1)
        obtain ⟨z1, z2, z3, z4, z5⟩ := hz
        cases z1
        replace z2 := z2.symm; replace z3 := z3.symm; replace z4 := z4.symm; replace z5 := z5.symm
        subst z2; subst z3; subst z4; subst z5
        exact Or.inl ⟨rfl, ex_rf⟩
        -- end
      · refine VW.iload_n (pc' := 80) d_F_join_79 rfl rfl ?_
        refine VW.if_lt (tgt := 93) (pc' := 83) d_F_join_80 rfl rfl (fun c80 => ?_) (fun c80 => ?_)
        · refine VW.iconst (pc' := 94) d_F_join_93 rfl (by decide) ?_
          refine VW.callSX (pc' := 97) d_F_join_94 rfl (sp_F_demandPlace0) rfl ms_F_demandPlace.1 ms_F_demandPlace.2.1 rfl ms_F_demandPlace.2.2 lk_F_97 rfl rfl rfl (by decide) (by decide) (fun _ _ _ _ _ hz => ?_) (fun _ _ _ _ _ hz => by cases hz.1)
          obtain ⟨z1, z2, z3, z4, z5⟩ := hz
          cases z1
          replace z2 := z2.symm; replace z3 := z3.symm; replace z4 := z4.symm; replace z5 := z5.symm
          subst z2; subst z3; subst z4; subst z5
          exact Or.inl ⟨rfl, ex_rf⟩
          -- end
        · refine VW.iload_n (pc' := 84) d_F_join_83 rfl rfl ?_
          refine VW.iload (pc' := 86) d_F_join_84 rfl rfl ?_
          refine VW.icmp_ge (tgt := 93) (pc' := 89) d_F_join_86 rfl rfl (fun c86 => ?_) (fun c86 => ?_)
          · refine VW.iconst (pc' := 94) d_F_join_93 rfl (by decide) ?_
            refine VW.callSX (pc' := 97) d_F_join_94 rfl (sp_F_demandPlace0) rfl ms_F_demandPlace.1 ms_F_demandPlace.2.1 rfl ms_F_demandPlace.2.2 lk_F_97 rfl rfl rfl (by decide) (by decide) (fun _ _ _ _ _ hz => ?_) (fun _ _ _ _ _ hz => by cases hz.1)
            obtain ⟨z1, z2, z3, z4, z5⟩ := hz
            cases z1
            replace z2 := z2.symm; replace z3 := z3.symm; replace z4 := z4.symm; replace z5 := z5.symm
            subst z2; subst z3; subst z4; subst z5
            exact Or.inl ⟨rfl, ex_rf⟩
            -- end
          · refine VW.nrm ?_
            exact absurd ⟨⟨by omega, by omega⟩, by omega, by omega⟩ h
  · refine VW.aload_n (pc' := 1) d_F_join_0 rfl rfl ?_
    refine VW.gP (ci := 10) (T := T10) (N := 11) (k := 10) (k' := 10) (pc' := 4) d_F_join_1 rfl lk_F_66 in10 rfl rfl rfl rfl (by first | exact hC.k 0 rfl | exact hC.k 2 rfl | exact hC.k 3 rfl | exact hQ.k) (by first | exact hp | exact hC.p 0 rfl | exact hC.p 9 rfl | rfl) ?_
    refine VW.iconst (pc' := 5) d_F_join_4 rfl (by decide) ?_
    refine VW.cV (ci := 4) (T := T4) (N := 13) (pc' := 8) d_F_join_5 rfl mv_Query_takesOperator lk_F_238 rfl (by first | exact hC.k 0 rfl | exact hC.k 2 rfl | exact hC.k 3 rfl | exact hQ.k) rfl rfl rfl (by decide) (by decide) (tkY hQ ht) rfl rfl ?_
    refine VW.callSX (pc' := 11) d_F_join_8 rfl (sp_F_demandState1 (by decide)) rfl ms_F_demandState.1 ms_F_demandState.2.1 rfl ms_F_demandState.2.2 lk_F_82 rfl rfl rfl (by decide) (by decide) (fun _ _ _ _ _ hz => by cases hz.1) (fun r _ _ _ _ hz => ?_)
    obtain ⟨z1, z2, z3, z4, z5⟩ := hz
    cases z1
    replace z2 := z2.symm; replace z3 := z3.symm; replace z4 := z4.symm; replace z5 := z5.symm
    subst z2; subst z3; subst z4; subst z5
    refine VW.iload_n (pc' := 12) d_F_join_11 rfl rfl ?_
    refine VW.iconst (pc' := 13) d_F_join_12 rfl (by decide) ?_
    refine VW.icmp_eq (tgt := 21) (pc' := 16) d_F_join_13 rfl rfl (fun c13 => ?_) (fun c13 => ?_)
    case refine_1 => exact absurd c13 (by decide)
    refine VW.iload_n (pc' := 17) d_F_join_16 rfl rfl ?_
    refine VW.iconst (pc' := 18) d_F_join_17 rfl (by decide) ?_
    refine VW.icmp_ne (tgt := 25) (pc' := 21) d_F_join_18 rfl rfl (fun c18 => ?_) (fun c18 => ?_)
    case refine_1 => exact absurd c18 (fun z => z rfl)
    refine VW.iconst (pc' := 22) d_F_join_21 rfl (by decide) ?_
    refine VW.goto (pc' := 26) d_F_join_22 rfl ?_
    refine VW.istore (pc' := 28) d_F_join_26 rfl rfl ?_
    refine VW.aload_n (pc' := 29) d_F_join_28 rfl rfl ?_
    refine VW.gP (ci := 10) (T := T10) (N := 11) (k := 10) (k' := 10) (pc' := 32) d_F_join_29 rfl lk_F_66 in10 rfl rfl rfl rfl (by first | exact hC.k 0 rfl | exact hC.k 2 rfl | exact hC.k 3 rfl | exact hQ.k) (by first | exact hp | exact hC.p 0 rfl | exact hC.p 9 rfl | rfl) ?_
    refine VW.cV (ci := 4) (T := T4) (N := 13) (pc' := 35) d_F_join_32 rfl mv_Query_earlierWidth lk_F_248 rfl (by first | exact hC.k 0 rfl | exact hC.k 2 rfl | exact hC.k 3 rfl | exact hQ.k) rfl rfl rfl (by decide) (by decide) (sp_Query_earlierWidth hQ hB) rfl rfl ?_
    refine VW.istore (pc' := 37) d_F_join_35 rfl rfl ?_
    refine VW.aload_n (pc' := 38) d_F_join_37 rfl rfl ?_
    refine VW.gP (ci := 10) (T := T10) (N := 11) (k := 10) (k' := 10) (pc' := 41) d_F_join_38 rfl lk_F_66 in10 rfl rfl rfl rfl (by first | exact hC.k 0 rfl | exact hC.k 2 rfl | exact hC.k 3 rfl | exact hQ.k) (by first | exact hp | exact hC.p 0 rfl | exact hC.p 9 rfl | rfl) ?_
    refine VW.cV (ci := 4) (T := T4) (N := 13) (pc' := 44) d_F_join_41 rfl mv_Query_lastWidth lk_F_241 rfl (by first | exact hC.k 0 rfl | exact hC.k 2 rfl | exact hC.k 3 rfl | exact hQ.k) rfl rfl rfl (by decide) (by decide) (sp_Query_lastWidth hQ hB) rfl rfl ?_
    refine VW.istore (pc' := 46) d_F_join_44 rfl rfl ?_
    refine VW.iload (pc' := 48) d_F_join_46 rfl rfl ?_
    refine VW.if_ne (tgt := 61) (pc' := 51) d_F_join_48 rfl rfl (fun _ => ?_) (fun c48 => absurd c48 (by decide))
    refine VW.iconst (pc' := 62) d_F_join_61 rfl (by decide) ?_
    refine VW.goto (pc' := 66) d_F_join_62 rfl ?_
    refine VW.callSX (pc' := 69) d_F_join_66 rfl (sp_F_demandState1 (by decide)) rfl ms_F_demandState.1 ms_F_demandState.2.1 rfl ms_F_demandState.2.2 lk_F_82 rfl rfl rfl (by decide) (by decide) (fun _ _ _ _ _ hz => by cases hz.1) (fun r _ _ _ _ hz => ?_)
    obtain ⟨z1, z2, z3, z4, z5⟩ := hz
    cases z1
    replace z2 := z2.symm; replace z3 := z3.symm; replace z4 := z4.symm; replace z5 := z5.symm
    subst z2; subst z3; subst z4; subst z5
    refine VW.iload_n (pc' := 70) d_F_join_69 rfl rfl ?_
    refine VW.if_lt (tgt := 93) (pc' := 73) d_F_join_70 rfl rfl (fun c70 => ?_) (fun c70 => ?_)
    · refine VW.iconst (pc' := 94) d_F_join_93 rfl (by decide) ?_
      refine VW.callSX (pc' := 97) d_F_join_94 rfl (sp_F_demandPlace0) rfl ms_F_demandPlace.1 ms_F_demandPlace.2.1 rfl ms_F_demandPlace.2.2 lk_F_97 rfl rfl rfl (by decide) (by decide) (fun _ _ _ _ _ hz => ?_) (fun _ _ _ _ _ hz => by cases hz.1)
      obtain ⟨z1, z2, z3, z4, z5⟩ := hz
      cases z1
      replace z2 := z2.symm; replace z3 := z3.symm; replace z4 := z4.symm; replace z5 := z5.symm
      subst z2; subst z3; subst z4; subst z5
      exact Or.inl ⟨rfl, ex_rf⟩
      -- end
    · refine VW.iload_n (pc' := 74) d_F_join_73 rfl rfl ?_
      refine VW.iload (pc' := 76) d_F_join_74 rfl rfl ?_
      refine VW.icmp_ge (tgt := 93) (pc' := 79) d_F_join_76 rfl rfl (fun c76 => ?_) (fun c76 => ?_)
      · refine VW.iconst (pc' := 94) d_F_join_93 rfl (by decide) ?_
        refine VW.callSX (pc' := 97) d_F_join_94 rfl (sp_F_demandPlace0) rfl ms_F_demandPlace.1 ms_F_demandPlace.2.1 rfl ms_F_demandPlace.2.2 lk_F_97 rfl rfl rfl (by decide) (by decide) (fun _ _ _ _ _ hz => ?_) (fun _ _ _ _ _ hz => by cases hz.1)
        obtain ⟨z1, z2, z3, z4, z5⟩ := hz
        cases z1
        replace z2 := z2.symm; replace z3 := z3.symm; replace z4 := z4.symm; replace z5 := z5.symm
        subst z2; subst z3; subst z4; subst z5
        exact Or.inl ⟨rfl, ex_rf⟩
        -- end
      · refine VW.iload_n (pc' := 80) d_F_join_79 rfl rfl ?_
        refine VW.if_lt (tgt := 93) (pc' := 83) d_F_join_80 rfl rfl (fun c80 => ?_) (fun c80 => ?_)
        · refine VW.iconst (pc' := 94) d_F_join_93 rfl (by decide) ?_
          refine VW.callSX (pc' := 97) d_F_join_94 rfl (sp_F_demandPlace0) rfl ms_F_demandPlace.1 ms_F_demandPlace.2.1 rfl ms_F_demandPlace.2.2 lk_F_97 rfl rfl rfl (by decide) (by decide) (fun _ _ _ _ _ hz => ?_) (fun _ _ _ _ _ hz => by cases hz.1)
          obtain ⟨z1, z2, z3, z4, z5⟩ := hz
          cases z1
          replace z2 := z2.symm; replace z3 := z3.symm; replace z4 := z4.symm; replace z5 := z5.symm
          subst z2; subst z3; subst z4; subst z5
          exact Or.inl ⟨rfl, ex_rf⟩
          -- end
        · refine VW.iload_n (pc' := 84) d_F_join_83 rfl rfl ?_
          refine VW.iload (pc' := 86) d_F_join_84 rfl rfl ?_
          refine VW.icmp_ge (tgt := 93) (pc' := 89) d_F_join_86 rfl rfl (fun c86 => ?_) (fun c86 => ?_)
          · refine VW.iconst (pc' := 94) d_F_join_93 rfl (by decide) ?_
            refine VW.callSX (pc' := 97) d_F_join_94 rfl (sp_F_demandPlace0) rfl ms_F_demandPlace.1 ms_F_demandPlace.2.1 rfl ms_F_demandPlace.2.2 lk_F_97 rfl rfl rfl (by decide) (by decide) (fun _ _ _ _ _ hz => ?_) (fun _ _ _ _ _ hz => by cases hz.1)
            obtain ⟨z1, z2, z3, z4, z5⟩ := hz
            cases z1
            replace z2 := z2.symm; replace z3 := z3.symm; replace z4 := z4.symm; replace z5 := z5.symm
            subst z2; subst z3; subst z4; subst z5
            exact Or.inl ⟨rfl, ex_rf⟩
            -- end
          · refine VW.nrm ?_
            exact absurd ⟨⟨by omega, by omega⟩, by omega, by omega⟩ h
  · refine VW.aload_n (pc' := 1) d_F_join_0 rfl rfl ?_
    refine VW.gP (ci := 10) (T := T10) (N := 11) (k := 10) (k' := 10) (pc' := 4) d_F_join_1 rfl lk_F_66 in10 rfl rfl rfl rfl (by first | exact hC.k 0 rfl | exact hC.k 2 rfl | exact hC.k 3 rfl | exact hQ.k) (by first | exact hp | exact hC.p 0 rfl | exact hC.p 9 rfl | rfl) ?_
    refine VW.iconst (pc' := 5) d_F_join_4 rfl (by decide) ?_
    refine VW.cV (ci := 4) (T := T4) (N := 13) (pc' := 8) d_F_join_5 rfl mv_Query_takesOperator lk_F_238 rfl (by first | exact hC.k 0 rfl | exact hC.k 2 rfl | exact hC.k 3 rfl | exact hQ.k) rfl rfl rfl (by decide) (by decide) (tkY hQ ht) rfl rfl ?_
    refine VW.callSX (pc' := 11) d_F_join_8 rfl (sp_F_demandState1 (by decide)) rfl ms_F_demandState.1 ms_F_demandState.2.1 rfl ms_F_demandState.2.2 lk_F_82 rfl rfl rfl (by decide) (by decide) (fun _ _ _ _ _ hz => by cases hz.1) (fun r _ _ _ _ hz => ?_)
    obtain ⟨z1, z2, z3, z4, z5⟩ := hz
    cases z1
    replace z2 := z2.symm; replace z3 := z3.symm; replace z4 := z4.symm; replace z5 := z5.symm
    subst z2; subst z3; subst z4; subst z5
    refine VW.iload_n (pc' := 12) d_F_join_11 rfl rfl ?_
    refine VW.iconst (pc' := 13) d_F_join_12 rfl (by decide) ?_
    refine VW.icmp_eq (tgt := 21) (pc' := 16) d_F_join_13 rfl rfl (fun c13 => ?_) (fun c13 => ?_)
    case refine_1 => exact absurd c13 (hw.1.1)
    refine VW.iload_n (pc' := 17) d_F_join_16 rfl rfl ?_
    refine VW.iconst (pc' := 18) d_F_join_17 rfl (by decide) ?_
    refine VW.icmp_ne (tgt := 25) (pc' := 21) d_F_join_18 rfl rfl (fun c18 => ?_) (fun c18 => ?_)
    case refine_2 => exact absurd c18 (hw.1.2)
    refine VW.iconst (pc' := 26) d_F_join_25 rfl (by decide) ?_
    refine VW.istore (pc' := 28) d_F_join_26 rfl rfl ?_
    refine VW.aload_n (pc' := 29) d_F_join_28 rfl rfl ?_
    refine VW.gP (ci := 10) (T := T10) (N := 11) (k := 10) (k' := 10) (pc' := 32) d_F_join_29 rfl lk_F_66 in10 rfl rfl rfl rfl (by first | exact hC.k 0 rfl | exact hC.k 2 rfl | exact hC.k 3 rfl | exact hQ.k) (by first | exact hp | exact hC.p 0 rfl | exact hC.p 9 rfl | rfl) ?_
    refine VW.cV (ci := 4) (T := T4) (N := 13) (pc' := 35) d_F_join_32 rfl mv_Query_earlierWidth lk_F_248 rfl (by first | exact hC.k 0 rfl | exact hC.k 2 rfl | exact hC.k 3 rfl | exact hQ.k) rfl rfl rfl (by decide) (by decide) (sp_Query_earlierWidth hQ hB) rfl rfl ?_
    refine VW.istore (pc' := 37) d_F_join_35 rfl rfl ?_
    refine VW.aload_n (pc' := 38) d_F_join_37 rfl rfl ?_
    refine VW.gP (ci := 10) (T := T10) (N := 11) (k := 10) (k' := 10) (pc' := 41) d_F_join_38 rfl lk_F_66 in10 rfl rfl rfl rfl (by first | exact hC.k 0 rfl | exact hC.k 2 rfl | exact hC.k 3 rfl | exact hQ.k) (by first | exact hp | exact hC.p 0 rfl | exact hC.p 9 rfl | rfl) ?_
    refine VW.cV (ci := 4) (T := T4) (N := 13) (pc' := 44) d_F_join_41 rfl mv_Query_lastWidth lk_F_241 rfl (by first | exact hC.k 0 rfl | exact hC.k 2 rfl | exact hC.k 3 rfl | exact hQ.k) rfl rfl rfl (by decide) (by decide) (sp_Query_lastWidth hQ hB) rfl rfl ?_
    refine VW.istore (pc' := 46) d_F_join_44 rfl rfl ?_
    refine VW.iload (pc' := 48) d_F_join_46 rfl rfl ?_
    refine VW.if_ne (tgt := 61) (pc' := 51) d_F_join_48 rfl rfl (fun c48 => absurd c48 (by decide)) (fun _ => ?_)
    refine VW.iload (pc' := 53) d_F_join_51 rfl rfl ?_
    refine VW.iload (pc' := 55) d_F_join_53 rfl rfl ?_
    refine VW.iadd (pc' := 56) d_F_join_55 rfl (by omega) ?_
    refine VW.bipush (pc' := 58) d_F_join_56 rfl (by decide) ?_
    refine VW.icmp_gt (tgt := 65) (pc' := 61) d_F_join_58 rfl rfl (fun c58 => ?_) (fun c58 => ?_)
    case refine_1 => exact absurd c58 (by omega)
    refine VW.iconst (pc' := 62) d_F_join_61 rfl (by decide) ?_
    refine VW.goto (pc' := 66) d_F_join_62 rfl ?_
    refine VW.callSX (pc' := 69) d_F_join_66 rfl (sp_F_demandState1 (by decide)) rfl ms_F_demandState.1 ms_F_demandState.2.1 rfl ms_F_demandState.2.2 lk_F_82 rfl rfl rfl (by decide) (by decide) (fun _ _ _ _ _ hz => by cases hz.1) (fun r _ _ _ _ hz => ?_)
    obtain ⟨z1, z2, z3, z4, z5⟩ := hz
    cases z1
    replace z2 := z2.symm; replace z3 := z3.symm; replace z4 := z4.symm; replace z5 := z5.symm
    subst z2; subst z3; subst z4; subst z5
    refine VW.iload_n (pc' := 70) d_F_join_69 rfl rfl ?_
    refine VW.if_lt (tgt := 93) (pc' := 73) d_F_join_70 rfl rfl (fun c70 => ?_) (fun c70 => ?_)
    · refine VW.iconst (pc' := 94) d_F_join_93 rfl (by decide) ?_
      refine VW.callSX (pc' := 97) d_F_join_94 rfl (sp_F_demandPlace0) rfl ms_F_demandPlace.1 ms_F_demandPlace.2.1 rfl ms_F_demandPlace.2.2 lk_F_97 rfl rfl rfl (by decide) (by decide) (fun _ _ _ _ _ hz => ?_) (fun _ _ _ _ _ hz => by cases hz.1)
      obtain ⟨z1, z2, z3, z4, z5⟩ := hz
      cases z1
      replace z2 := z2.symm; replace z3 := z3.symm; replace z4 := z4.symm; replace z5 := z5.symm
      subst z2; subst z3; subst z4; subst z5
      exact Or.inl ⟨rfl, ex_rf⟩
      -- end
    · refine VW.iload_n (pc' := 74) d_F_join_73 rfl rfl ?_
      refine VW.iload (pc' := 76) d_F_join_74 rfl rfl ?_
      refine VW.icmp_ge (tgt := 93) (pc' := 79) d_F_join_76 rfl rfl (fun c76 => ?_) (fun c76 => ?_)
      · refine VW.iconst (pc' := 94) d_F_join_93 rfl (by decide) ?_
        refine VW.callSX (pc' := 97) d_F_join_94 rfl (sp_F_demandPlace0) rfl ms_F_demandPlace.1 ms_F_demandPlace.2.1 rfl ms_F_demandPlace.2.2 lk_F_97 rfl rfl rfl (by decide) (by decide) (fun _ _ _ _ _ hz => ?_) (fun _ _ _ _ _ hz => by cases hz.1)
        obtain ⟨z1, z2, z3, z4, z5⟩ := hz
        cases z1
        replace z2 := z2.symm; replace z3 := z3.symm; replace z4 := z4.symm; replace z5 := z5.symm
        subst z2; subst z3; subst z4; subst z5
        exact Or.inl ⟨rfl, ex_rf⟩
        -- end
      · refine VW.iload_n (pc' := 80) d_F_join_79 rfl rfl ?_
        refine VW.if_lt (tgt := 93) (pc' := 83) d_F_join_80 rfl rfl (fun c80 => ?_) (fun c80 => ?_)
        · refine VW.iconst (pc' := 94) d_F_join_93 rfl (by decide) ?_
          refine VW.callSX (pc' := 97) d_F_join_94 rfl (sp_F_demandPlace0) rfl ms_F_demandPlace.1 ms_F_demandPlace.2.1 rfl ms_F_demandPlace.2.2 lk_F_97 rfl rfl rfl (by decide) (by decide) (fun _ _ _ _ _ hz => ?_) (fun _ _ _ _ _ hz => by cases hz.1)
          obtain ⟨z1, z2, z3, z4, z5⟩ := hz
          cases z1
          replace z2 := z2.symm; replace z3 := z3.symm; replace z4 := z4.symm; replace z5 := z5.symm
          subst z2; subst z3; subst z4; subst z5
          exact Or.inl ⟨rfl, ex_rf⟩
          -- end
        · refine VW.iload_n (pc' := 84) d_F_join_83 rfl rfl ?_
          refine VW.iload (pc' := 86) d_F_join_84 rfl rfl ?_
          refine VW.icmp_ge (tgt := 93) (pc' := 89) d_F_join_86 rfl rfl (fun c86 => ?_) (fun c86 => ?_)
          · refine VW.iconst (pc' := 94) d_F_join_93 rfl (by decide) ?_
            refine VW.callSX (pc' := 97) d_F_join_94 rfl (sp_F_demandPlace0) rfl ms_F_demandPlace.1 ms_F_demandPlace.2.1 rfl ms_F_demandPlace.2.2 lk_F_97 rfl rfl rfl (by decide) (by decide) (fun _ _ _ _ _ hz => ?_) (fun _ _ _ _ _ hz => by cases hz.1)
            obtain ⟨z1, z2, z3, z4, z5⟩ := hz
            cases z1
            replace z2 := z2.symm; replace z3 := z3.symm; replace z4 := z4.symm; replace z5 := z5.symm
            subst z2; subst z3; subst z4; subst z5
            exact Or.inl ⟨rfl, ex_rf⟩
            -- end
          · refine VW.nrm ?_
            exact absurd ⟨⟨by omega, by omega⟩, by omega, by omega⟩ h
theorem join_no3 (hC : ClW K P) (hp : P 1000 10 = some q) (hQ : QuW K P q) (hB : QuB I q) (ht : 2 ≤ I q 7 ∧ I q 0 < 12) (hl : 0 ≤ quLast I q ∧ quLast I q ≤ 10) (he : 0 ≤ quEarl I q ∧ quEarl I q ≤ 10) (hw : w = 3 ∨ w = 4 ∨ ((w ≠ 3 ∧ w ≠ 4) ∧ quEarl I q + quLast I q ≤ 10)) (hc : 0 ≤ c ∧ c < quEarl I q) (ho : 0 ≤ o ∧ o < quLast I q) (h : ¬ (0 ≤ w ∧ w ≤ 4)) : Sp m_F_join true ({ frames := 12, cells := 1, slots := 6, locals := 400 } : Room) (ex K P J I (.inr eIAE)) K P J I [vR (some 1000), vI w, vI c, vI o] := by
  rcases hw with rfl | rfl | hw
  · exact absurd ⟨by decide, by decide⟩ h
  · exact absurd ⟨by decide, by decide⟩ h
  refine Sp.ofV (by decide) (Or.inl rfl) rfl ?_
  refine VW.aload_n (pc' := 1) d_F_join_0 rfl rfl ?_
  refine VW.gP (ci := 10) (T := T10) (N := 11) (k := 10) (k' := 10) (pc' := 4) d_F_join_1 rfl lk_F_66 in10 rfl rfl rfl rfl (by first | exact hC.k 0 rfl | exact hC.k 2 rfl | exact hC.k 3 rfl | exact hQ.k) (by first | exact hp | exact hC.p 0 rfl | exact hC.p 9 rfl | rfl) ?_
  refine VW.iconst (pc' := 5) d_F_join_4 rfl (by decide) ?_
  refine VW.cV (ci := 4) (T := T4) (N := 13) (pc' := 8) d_F_join_5 rfl mv_Query_takesOperator lk_F_238 rfl (by first | exact hC.k 0 rfl | exact hC.k 2 rfl | exact hC.k 3 rfl | exact hQ.k) rfl rfl rfl (by decide) (by decide) (tkY hQ ht) rfl rfl ?_
  refine VW.callSX (pc' := 11) d_F_join_8 rfl (sp_F_demandState1 (by decide)) rfl ms_F_demandState.1 ms_F_demandState.2.1 rfl ms_F_demandState.2.2 lk_F_82 rfl rfl rfl (by decide) (by decide) (fun _ _ _ _ _ hz => by cases hz.1) (fun r _ _ _ _ hz => ?_)
  obtain ⟨z1, z2, z3, z4, z5⟩ := hz
  cases z1
  replace z2 := z2.symm; replace z3 := z3.symm; replace z4 := z4.symm; replace z5 := z5.symm
  subst z2; subst z3; subst z4; subst z5
  refine VW.iload_n (pc' := 12) d_F_join_11 rfl rfl ?_
  refine VW.iconst (pc' := 13) d_F_join_12 rfl (by decide) ?_
  refine VW.icmp_eq (tgt := 21) (pc' := 16) d_F_join_13 rfl rfl (fun c13 => ?_) (fun c13 => ?_)
  case refine_1 => exact absurd c13 (hw.1.1)
  refine VW.iload_n (pc' := 17) d_F_join_16 rfl rfl ?_
  refine VW.iconst (pc' := 18) d_F_join_17 rfl (by decide) ?_
  refine VW.icmp_ne (tgt := 25) (pc' := 21) d_F_join_18 rfl rfl (fun c18 => ?_) (fun c18 => ?_)
  case refine_2 => exact absurd c18 (hw.1.2)
  refine VW.iconst (pc' := 26) d_F_join_25 rfl (by decide) ?_
  refine VW.istore (pc' := 28) d_F_join_26 rfl rfl ?_
  refine VW.aload_n (pc' := 29) d_F_join_28 rfl rfl ?_
  refine VW.gP (ci := 10) (T := T10) (N := 11) (k := 10) (k' := 10) (pc' := 32) d_F_join_29 rfl lk_F_66 in10 rfl rfl rfl rfl (by first | exact hC.k 0 rfl | exact hC.k 2 rfl | exact hC.k 3 rfl | exact hQ.k) (by first | exact hp | exact hC.p 0 rfl | exact hC.p 9 rfl | rfl) ?_
  refine VW.cV (ci := 4) (T := T4) (N := 13) (pc' := 35) d_F_join_32 rfl mv_Query_earlierWidth lk_F_248 rfl (by first | exact hC.k 0 rfl | exact hC.k 2 rfl | exact hC.k 3 rfl | exact hQ.k) rfl rfl rfl (by decide) (by decide) (sp_Query_earlierWidth hQ hB) rfl rfl ?_
  refine VW.istore (pc' := 37) d_F_join_35 rfl rfl ?_
  refine VW.aload_n (pc' := 38) d_F_join_37 rfl rfl ?_
  refine VW.gP (ci := 10) (T := T10) (N := 11) (k := 10) (k' := 10) (pc' := 41) d_F_join_38 rfl lk_F_66 in10 rfl rfl rfl rfl (by first | exact hC.k 0 rfl | exact hC.k 2 rfl | exact hC.k 3 rfl | exact hQ.k) (by first | exact hp | exact hC.p 0 rfl | exact hC.p 9 rfl | rfl) ?_
  refine VW.cV (ci := 4) (T := T4) (N := 13) (pc' := 44) d_F_join_41 rfl mv_Query_lastWidth lk_F_241 rfl (by first | exact hC.k 0 rfl | exact hC.k 2 rfl | exact hC.k 3 rfl | exact hQ.k) rfl rfl rfl (by decide) (by decide) (sp_Query_lastWidth hQ hB) rfl rfl ?_
  refine VW.istore (pc' := 46) d_F_join_44 rfl rfl ?_
  refine VW.iload (pc' := 48) d_F_join_46 rfl rfl ?_
  refine VW.if_ne (tgt := 61) (pc' := 51) d_F_join_48 rfl rfl (fun c48 => absurd c48 (by decide)) (fun _ => ?_)
  refine VW.iload (pc' := 53) d_F_join_51 rfl rfl ?_
  refine VW.iload (pc' := 55) d_F_join_53 rfl rfl ?_
  refine VW.iadd (pc' := 56) d_F_join_55 rfl (by omega) ?_
  refine VW.bipush (pc' := 58) d_F_join_56 rfl (by decide) ?_
  refine VW.icmp_gt (tgt := 65) (pc' := 61) d_F_join_58 rfl rfl (fun c58 => ?_) (fun c58 => ?_)
  case refine_1 => exact absurd c58 (by omega)
  refine VW.iconst (pc' := 62) d_F_join_61 rfl (by decide) ?_
  refine VW.goto (pc' := 66) d_F_join_62 rfl ?_
  refine VW.callSX (pc' := 69) d_F_join_66 rfl (sp_F_demandState1 (by decide)) rfl ms_F_demandState.1 ms_F_demandState.2.1 rfl ms_F_demandState.2.2 lk_F_82 rfl rfl rfl (by decide) (by decide) (fun _ _ _ _ _ hz => by cases hz.1) (fun r _ _ _ _ hz => ?_)
  obtain ⟨z1, z2, z3, z4, z5⟩ := hz
  cases z1
  replace z2 := z2.symm; replace z3 := z3.symm; replace z4 := z4.symm; replace z5 := z5.symm
  subst z2; subst z3; subst z4; subst z5
  refine VW.iload_n (pc' := 70) d_F_join_69 rfl rfl ?_
  refine VW.if_lt (tgt := 93) (pc' := 73) d_F_join_70 rfl rfl (fun c70 => ?_) (fun c70 => ?_)
  case refine_1 => exact absurd c70 (by omega)
  refine VW.iload_n (pc' := 74) d_F_join_73 rfl rfl ?_
  refine VW.iload (pc' := 76) d_F_join_74 rfl rfl ?_
  refine VW.icmp_ge (tgt := 93) (pc' := 79) d_F_join_76 rfl rfl (fun c76 => ?_) (fun c76 => ?_)
  case refine_1 => exact absurd c76 (by omega)
  refine VW.iload_n (pc' := 80) d_F_join_79 rfl rfl ?_
  refine VW.if_lt (tgt := 93) (pc' := 83) d_F_join_80 rfl rfl (fun c80 => ?_) (fun c80 => ?_)
  case refine_1 => exact absurd c80 (by omega)
  refine VW.iload_n (pc' := 84) d_F_join_83 rfl rfl ?_
  refine VW.iload (pc' := 86) d_F_join_84 rfl rfl ?_
  refine VW.icmp_ge (tgt := 93) (pc' := 89) d_F_join_86 rfl rfl (fun c86 => ?_) (fun c86 => ?_)
  case refine_1 => exact absurd c86 (by omega)
  refine VW.iconst (pc' := 90) d_F_join_89 rfl (by decide) ?_
  refine VW.goto (pc' := 94) d_F_join_90 rfl ?_
  refine VW.callSX (pc' := 97) d_F_join_94 rfl (sp_F_demandPlace1 (by decide)) rfl ms_F_demandPlace.1 ms_F_demandPlace.2.1 rfl ms_F_demandPlace.2.2 lk_F_97 rfl rfl rfl (by decide) (by decide) (fun _ _ _ _ _ hz => by cases hz.1) (fun r _ _ _ _ hz => ?_)
  obtain ⟨z1, z2, z3, z4, z5⟩ := hz
  cases z1
  replace z2 := z2.symm; replace z3 := z3.symm; replace z4 := z4.symm; replace z5 := z5.symm
  subst z2; subst z3; subst z4; subst z5
  refine VW.iload_n (pc' := 98) d_F_join_97 rfl rfl ?_
  refine VW.if_lt (tgt := 110) (pc' := 101) d_F_join_98 rfl rfl (fun c98 => ?_) (fun c98 => ?_)
  · refine VW.iconst (pc' := 111) d_F_join_110 rfl (by decide) ?_
    refine VW.callSX (pc' := 114) d_F_join_111 rfl (sp_F_demandRange0) rfl ms_F_demandRange.1 ms_F_demandRange.2.1 rfl ms_F_demandRange.2.2 lk_F_70 rfl rfl rfl (by decide) (by decide) (fun _ _ _ _ _ hz => ?_) (fun _ _ _ _ _ hz => by cases hz.1)
    obtain ⟨z1, z2, z3, z4, z5⟩ := hz
    cases z1
    replace z2 := z2.symm; replace z3 := z3.symm; replace z4 := z4.symm; replace z5 := z5.symm
    subst z2; subst z3; subst z4; subst z5
    exact Or.inl ⟨rfl, ex_rf⟩
    -- end
  · refine VW.iload_n (pc' := 102) d_F_join_101 rfl rfl ?_
    refine VW.iconst (pc' := 103) d_F_join_102 rfl (by decide) ?_
    refine VW.icmp_gt (tgt := 110) (pc' := 106) d_F_join_103 rfl rfl (fun c103 => ?_) (fun c103 => ?_)
    · refine VW.iconst (pc' := 111) d_F_join_110 rfl (by decide) ?_
      refine VW.callSX (pc' := 114) d_F_join_111 rfl (sp_F_demandRange0) rfl ms_F_demandRange.1 ms_F_demandRange.2.1 rfl ms_F_demandRange.2.2 lk_F_70 rfl rfl rfl (by decide) (by decide) (fun _ _ _ _ _ hz => ?_) (fun _ _ _ _ _ hz => by cases hz.1)
      obtain ⟨z1, z2, z3, z4, z5⟩ := hz
      cases z1
      replace z2 := z2.symm; replace z3 := z3.symm; replace z4 := z4.symm; replace z5 := z5.symm
      subst z2; subst z3; subst z4; subst z5
      exact Or.inl ⟨rfl, ex_rf⟩
      -- end
    · refine VW.nrm ?_
      exact absurd ⟨by omega, by omega⟩ h
theorem join_run (hC : ClW K P) (hp : P 1000 10 = some q) (hQ : QuW K P q) (hB : QuB I q) (ht : 2 ≤ I q 7 ∧ I q 0 < 12) (hl : 0 ≤ quLast I q ∧ quLast I q ≤ 10) (he : 0 ≤ quEarl I q ∧ quEarl I q ≤ 10) (hw : w = 3 ∨ w = 4 ∨ ((w ≠ 3 ∧ w ≠ 4) ∧ quEarl I q + quLast I q ≤ 10)) (hc : 0 ≤ c ∧ c < quEarl I q) (ho : 0 ≤ o ∧ o < quLast I q) (h0 : 0 ≤ I q 0) (h7 : I q 7 ≤ 6) {x : Int} (hx : x = if 2 < w then quEarl I q else quEarl I q + quLast I q) (h4 : 0 ≤ w ∧ w ≤ 4) : Sp m_F_join true ({ frames := 12, cells := 0, slots := 0, locals := 400 } : Room) (ex K P J (quTwo I q 4 x w c o) (.inl (some (vI (quTwo I q 4 x w c o q 7))))) K P J I [vR (some 1000), vI w, vI c, vI o] := by
  rcases hw with rfl | rfl | hw
  · rw [if_pos (by decide)] at hx; subst hx
    refine Sp.ofV (by decide) (Or.inl rfl) rfl ?_
    refine VW.aload_n (pc' := 1) d_F_join_0 rfl rfl ?_
    refine VW.gP (ci := 10) (T := T10) (N := 11) (k := 10) (k' := 10) (pc' := 4) d_F_join_1 rfl lk_F_66 in10 rfl rfl rfl rfl (by first | exact hC.k 0 rfl | exact hC.k 2 rfl | exact hC.k 3 rfl | exact hQ.k) (by first | exact hp | exact hC.p 0 rfl | exact hC.p 9 rfl | rfl) ?_
    refine VW.iconst (pc' := 5) d_F_join_4 rfl (by decide) ?_
    refine VW.cV (ci := 4) (T := T4) (N := 13) (pc' := 8) d_F_join_5 rfl mv_Query_takesOperator lk_F_238 rfl (by first | exact hC.k 0 rfl | exact hC.k 2 rfl | exact hC.k 3 rfl | exact hQ.k) rfl rfl rfl (by decide) (by decide) (tkY hQ ht) rfl rfl ?_
    refine VW.callSX (pc' := 11) d_F_join_8 rfl (sp_F_demandState1 (by decide)) rfl ms_F_demandState.1 ms_F_demandState.2.1 rfl ms_F_demandState.2.2 lk_F_82 rfl rfl rfl (by decide) (by decide) (fun _ _ _ _ _ hz => by cases hz.1) (fun r _ _ _ _ hz => ?_)
    obtain ⟨z1, z2, z3, z4, z5⟩ := hz
    cases z1
    replace z2 := z2.symm; replace z3 := z3.symm; replace z4 := z4.symm; replace z5 := z5.symm
    subst z2; subst z3; subst z4; subst z5
    refine VW.iload_n (pc' := 12) d_F_join_11 rfl rfl ?_
    refine VW.iconst (pc' := 13) d_F_join_12 rfl (by decide) ?_
    refine VW.icmp_eq (tgt := 21) (pc' := 16) d_F_join_13 rfl rfl (fun c13 => ?_) (fun c13 => ?_)
    case refine_2 => exact absurd c13 (fun z => z rfl)
    refine VW.iconst (pc' := 22) d_F_join_21 rfl (by decide) ?_
    refine VW.goto (pc' := 26) d_F_join_22 rfl ?_
    refine VW.istore (pc' := 28) d_F_join_26 rfl rfl ?_
    refine VW.aload_n (pc' := 29) d_F_join_28 rfl rfl ?_
    refine VW.gP (ci := 10) (T := T10) (N := 11) (k := 10) (k' := 10) (pc' := 32) d_F_join_29 rfl lk_F_66 in10 rfl rfl rfl rfl (by first | exact hC.k 0 rfl | exact hC.k 2 rfl | exact hC.k 3 rfl | exact hQ.k) (by first | exact hp | exact hC.p 0 rfl | exact hC.p 9 rfl | rfl) ?_
    refine VW.cV (ci := 4) (T := T4) (N := 13) (pc' := 35) d_F_join_32 rfl mv_Query_earlierWidth lk_F_248 rfl (by first | exact hC.k 0 rfl | exact hC.k 2 rfl | exact hC.k 3 rfl | exact hQ.k) rfl rfl rfl (by decide) (by decide) (sp_Query_earlierWidth hQ hB) rfl rfl ?_
    refine VW.istore (pc' := 37) d_F_join_35 rfl rfl ?_
    refine VW.aload_n (pc' := 38) d_F_join_37 rfl rfl ?_
    refine VW.gP (ci := 10) (T := T10) (N := 11) (k := 10) (k' := 10) (pc' := 41) d_F_join_38 rfl lk_F_66 in10 rfl rfl rfl rfl (by first | exact hC.k 0 rfl | exact hC.k 2 rfl | exact hC.k 3 rfl | exact hQ.k) (by first | exact hp | exact hC.p 0 rfl | exact hC.p 9 rfl | rfl) ?_
    refine VW.cV (ci := 4) (T := T4) (N := 13) (pc' := 44) d_F_join_41 rfl mv_Query_lastWidth lk_F_241 rfl (by first | exact hC.k 0 rfl | exact hC.k 2 rfl | exact hC.k 3 rfl | exact hQ.k) rfl rfl rfl (by decide) (by decide) (sp_Query_lastWidth hQ hB) rfl rfl ?_
    refine VW.istore (pc' := 46) d_F_join_44 rfl rfl ?_
    refine VW.iload (pc' := 48) d_F_join_46 rfl rfl ?_
    refine VW.if_ne (tgt := 61) (pc' := 51) d_F_join_48 rfl rfl (fun _ => ?_) (fun c48 => absurd c48 (by decide))
    refine VW.iconst (pc' := 62) d_F_join_61 rfl (by decide) ?_
    refine VW.goto (pc' := 66) d_F_join_62 rfl ?_
    refine VW.callSX (pc' := 69) d_F_join_66 rfl (sp_F_demandState1 (by decide)) rfl ms_F_demandState.1 ms_F_demandState.2.1 rfl ms_F_demandState.2.2 lk_F_82 rfl rfl rfl (by decide) (by decide) (fun _ _ _ _ _ hz => by cases hz.1) (fun r _ _ _ _ hz => ?_)
    obtain ⟨z1, z2, z3, z4, z5⟩ := hz
    cases z1
    replace z2 := z2.symm; replace z3 := z3.symm; replace z4 := z4.symm; replace z5 := z5.symm
    subst z2; subst z3; subst z4; subst z5
    refine VW.iload_n (pc' := 70) d_F_join_69 rfl rfl ?_
    refine VW.if_lt (tgt := 93) (pc' := 73) d_F_join_70 rfl rfl (fun c70 => ?_) (fun c70 => ?_)
    case refine_1 => exact absurd c70 (by omega)
    refine VW.iload_n (pc' := 74) d_F_join_73 rfl rfl ?_
    refine VW.iload (pc' := 76) d_F_join_74 rfl rfl ?_
    refine VW.icmp_ge (tgt := 93) (pc' := 79) d_F_join_76 rfl rfl (fun c76 => ?_) (fun c76 => ?_)
    case refine_1 => exact absurd c76 (by omega)
    refine VW.iload_n (pc' := 80) d_F_join_79 rfl rfl ?_
    refine VW.if_lt (tgt := 93) (pc' := 83) d_F_join_80 rfl rfl (fun c80 => ?_) (fun c80 => ?_)
    case refine_1 => exact absurd c80 (by omega)
    refine VW.iload_n (pc' := 84) d_F_join_83 rfl rfl ?_
    refine VW.iload (pc' := 86) d_F_join_84 rfl rfl ?_
    refine VW.icmp_ge (tgt := 93) (pc' := 89) d_F_join_86 rfl rfl (fun c86 => ?_) (fun c86 => ?_)
    case refine_1 => exact absurd c86 (by omega)
    refine VW.iconst (pc' := 90) d_F_join_89 rfl (by decide) ?_
    refine VW.goto (pc' := 94) d_F_join_90 rfl ?_
    refine VW.callSX (pc' := 97) d_F_join_94 rfl (sp_F_demandPlace1 (by decide)) rfl ms_F_demandPlace.1 ms_F_demandPlace.2.1 rfl ms_F_demandPlace.2.2 lk_F_97 rfl rfl rfl (by decide) (by decide) (fun _ _ _ _ _ hz => by cases hz.1) (fun r _ _ _ _ hz => ?_)
    obtain ⟨z1, z2, z3, z4, z5⟩ := hz
    cases z1
    replace z2 := z2.symm; replace z3 := z3.symm; replace z4 := z4.symm; replace z5 := z5.symm
    subst z2; subst z3; subst z4; subst z5
    refine VW.iload_n (pc' := 98) d_F_join_97 rfl rfl ?_
    refine VW.if_lt (tgt := 110) (pc' := 101) d_F_join_98 rfl rfl (fun c98 => ?_) (fun c98 => ?_)
    case refine_1 => exact absurd c98 (by decide)
    refine VW.iload_n (pc' := 102) d_F_join_101 rfl rfl ?_
    refine VW.iconst (pc' := 103) d_F_join_102 rfl (by decide) ?_
    refine VW.icmp_gt (tgt := 110) (pc' := 106) d_F_join_103 rfl rfl (fun c103 => ?_) (fun c103 => ?_)
    case refine_1 => exact absurd c103 (by decide)
    refine VW.iconst (pc' := 107) d_F_join_106 rfl (by decide) ?_
    refine VW.goto (pc' := 111) d_F_join_107 rfl ?_
    refine VW.callSX (pc' := 114) d_F_join_111 rfl (sp_F_demandRange1 (by decide)) rfl ms_F_demandRange.1 ms_F_demandRange.2.1 rfl ms_F_demandRange.2.2 lk_F_70 rfl rfl rfl (by decide) (by decide) (fun _ _ _ _ _ hz => by cases hz.1) (fun r _ _ _ _ hz => ?_)
    obtain ⟨z1, z2, z3, z4, z5⟩ := hz
    cases z1
    replace z2 := z2.symm; replace z3 := z3.symm; replace z4 := z4.symm; replace z5 := z5.symm
    subst z2; subst z3; subst z4; subst z5
    refine VW.aload_n (pc' := 115) d_F_join_114 rfl rfl ?_
    refine VW.gP (ci := 10) (T := T10) (N := 11) (k := 10) (k' := 10) (pc' := 118) d_F_join_115 rfl lk_F_66 in10 rfl rfl rfl rfl (by first | exact hC.k 0 rfl | exact hC.k 2 rfl | exact hC.k 3 rfl | exact hQ.k) (by first | exact hp | exact hC.p 0 rfl | exact hC.p 9 rfl | rfl) ?_
    refine VW.iconst (pc' := 119) d_F_join_118 rfl (by decide) ?_
    refine VW.iload (pc' := 121) d_F_join_119 rfl rfl ?_
    refine VW.if_eq (tgt := 129) (pc' := 124) d_F_join_121 rfl rfl (fun c121 => absurd c121 (by decide)) (fun _ => ?_)
    refine VW.iload (pc' := 126) d_F_join_124 rfl rfl ?_
    refine VW.goto (pc' := 134) d_F_join_126 rfl ?_
    refine VW.iload_n (pc' := 135) d_F_join_134 rfl rfl ?_
    refine VW.iload_n (pc' := 136) d_F_join_135 rfl rfl ?_
    refine VW.iload_n (pc' := 137) d_F_join_136 rfl rfl ?_
    refine VW.cV (ci := 4) (T := T4) (N := 13) (pc' := 140) d_F_join_137 rfl mv_Query_putOnTwo lk_F_251 rfl (by first | exact hC.k 0 rfl | exact hC.k 2 rfl | exact hC.k 3 rfl | exact hQ.k) rfl rfl rfl (by decide) (by decide) (sp_Query_putOnTwo hQ ⟨h0, ht.2⟩ ⟨ht.1, h7⟩) rfl rfl ?_
    refine VW.aload_n (pc' := 141) d_F_join_140 rfl rfl ?_
    refine VW.gP (ci := 10) (T := T10) (N := 11) (k := 10) (k' := 10) (pc' := 144) d_F_join_141 rfl lk_F_66 in10 rfl rfl rfl rfl (by first | exact hC.k 0 rfl | exact hC.k 2 rfl | exact hC.k 3 rfl | exact hQ.k) (by first | exact hp | exact hC.p 0 rfl | exact hC.p 9 rfl | rfl) ?_
    refine VW.gI (ci := 4) (T := T4) (N := 13) (k := 7) (k' := 7) (pc' := 147) d_F_join_144 rfl lk_F_228 in4 rfl rfl rfl rfl (by first | exact hC.k 0 rfl | exact hC.k 2 rfl | exact hC.k 3 rfl | exact hQ.k) (by first | exact hp | exact hC.p 0 rfl | exact hC.p 9 rfl | rfl) ?_
    exact VW.iret d_F_join_147 rfl rfl (by decide) (by decide) ex_rf
  · rw [if_pos (by decide)] at hx; subst hx
    refine Sp.ofV (by decide) (Or.inl rfl) rfl ?_
    refine VW.aload_n (pc' := 1) d_F_join_0 rfl rfl ?_
    refine VW.gP (ci := 10) (T := T10) (N := 11) (k := 10) (k' := 10) (pc' := 4) d_F_join_1 rfl lk_F_66 in10 rfl rfl rfl rfl (by first | exact hC.k 0 rfl | exact hC.k 2 rfl | exact hC.k 3 rfl | exact hQ.k) (by first | exact hp | exact hC.p 0 rfl | exact hC.p 9 rfl | rfl) ?_
    refine VW.iconst (pc' := 5) d_F_join_4 rfl (by decide) ?_
    refine VW.cV (ci := 4) (T := T4) (N := 13) (pc' := 8) d_F_join_5 rfl mv_Query_takesOperator lk_F_238 rfl (by first | exact hC.k 0 rfl | exact hC.k 2 rfl | exact hC.k 3 rfl | exact hQ.k) rfl rfl rfl (by decide) (by decide) (tkY hQ ht) rfl rfl ?_
    refine VW.callSX (pc' := 11) d_F_join_8 rfl (sp_F_demandState1 (by decide)) rfl ms_F_demandState.1 ms_F_demandState.2.1 rfl ms_F_demandState.2.2 lk_F_82 rfl rfl rfl (by decide) (by decide) (fun _ _ _ _ _ hz => by cases hz.1) (fun r _ _ _ _ hz => ?_)
    obtain ⟨z1, z2, z3, z4, z5⟩ := hz
    cases z1
    replace z2 := z2.symm; replace z3 := z3.symm; replace z4 := z4.symm; replace z5 := z5.symm
    subst z2; subst z3; subst z4; subst z5
    refine VW.iload_n (pc' := 12) d_F_join_11 rfl rfl ?_
    refine VW.iconst (pc' := 13) d_F_join_12 rfl (by decide) ?_
    refine VW.icmp_eq (tgt := 21) (pc' := 16) d_F_join_13 rfl rfl (fun c13 => ?_) (fun c13 => ?_)
    case refine_1 => exact absurd c13 (by decide)
    refine VW.iload_n (pc' := 17) d_F_join_16 rfl rfl ?_
    refine VW.iconst (pc' := 18) d_F_join_17 rfl (by decide) ?_
    refine VW.icmp_ne (tgt := 25) (pc' := 21) d_F_join_18 rfl rfl (fun c18 => ?_) (fun c18 => ?_)
    case refine_1 => exact absurd c18 (fun z => z rfl)
    refine VW.iconst (pc' := 22) d_F_join_21 rfl (by decide) ?_
    refine VW.goto (pc' := 26) d_F_join_22 rfl ?_
    refine VW.istore (pc' := 28) d_F_join_26 rfl rfl ?_
    refine VW.aload_n (pc' := 29) d_F_join_28 rfl rfl ?_
    refine VW.gP (ci := 10) (T := T10) (N := 11) (k := 10) (k' := 10) (pc' := 32) d_F_join_29 rfl lk_F_66 in10 rfl rfl rfl rfl (by first | exact hC.k 0 rfl | exact hC.k 2 rfl | exact hC.k 3 rfl | exact hQ.k) (by first | exact hp | exact hC.p 0 rfl | exact hC.p 9 rfl | rfl) ?_
    refine VW.cV (ci := 4) (T := T4) (N := 13) (pc' := 35) d_F_join_32 rfl mv_Query_earlierWidth lk_F_248 rfl (by first | exact hC.k 0 rfl | exact hC.k 2 rfl | exact hC.k 3 rfl | exact hQ.k) rfl rfl rfl (by decide) (by decide) (sp_Query_earlierWidth hQ hB) rfl rfl ?_
    refine VW.istore (pc' := 37) d_F_join_35 rfl rfl ?_
    refine VW.aload_n (pc' := 38) d_F_join_37 rfl rfl ?_
    refine VW.gP (ci := 10) (T := T10) (N := 11) (k := 10) (k' := 10) (pc' := 41) d_F_join_38 rfl lk_F_66 in10 rfl rfl rfl rfl (by first | exact hC.k 0 rfl | exact hC.k 2 rfl | exact hC.k 3 rfl | exact hQ.k) (by first | exact hp | exact hC.p 0 rfl | exact hC.p 9 rfl | rfl) ?_
    refine VW.cV (ci := 4) (T := T4) (N := 13) (pc' := 44) d_F_join_41 rfl mv_Query_lastWidth lk_F_241 rfl (by first | exact hC.k 0 rfl | exact hC.k 2 rfl | exact hC.k 3 rfl | exact hQ.k) rfl rfl rfl (by decide) (by decide) (sp_Query_lastWidth hQ hB) rfl rfl ?_
    refine VW.istore (pc' := 46) d_F_join_44 rfl rfl ?_
    refine VW.iload (pc' := 48) d_F_join_46 rfl rfl ?_
    refine VW.if_ne (tgt := 61) (pc' := 51) d_F_join_48 rfl rfl (fun _ => ?_) (fun c48 => absurd c48 (by decide))
    refine VW.iconst (pc' := 62) d_F_join_61 rfl (by decide) ?_
    refine VW.goto (pc' := 66) d_F_join_62 rfl ?_
    refine VW.callSX (pc' := 69) d_F_join_66 rfl (sp_F_demandState1 (by decide)) rfl ms_F_demandState.1 ms_F_demandState.2.1 rfl ms_F_demandState.2.2 lk_F_82 rfl rfl rfl (by decide) (by decide) (fun _ _ _ _ _ hz => by cases hz.1) (fun r _ _ _ _ hz => ?_)
    obtain ⟨z1, z2, z3, z4, z5⟩ := hz
    cases z1
    replace z2 := z2.symm; replace z3 := z3.symm; replace z4 := z4.symm; replace z5 := z5.symm
    subst z2; subst z3; subst z4; subst z5
    refine VW.iload_n (pc' := 70) d_F_join_69 rfl rfl ?_
    refine VW.if_lt (tgt := 93) (pc' := 73) d_F_join_70 rfl rfl (fun c70 => ?_) (fun c70 => ?_)
    case refine_1 => exact absurd c70 (by omega)
    refine VW.iload_n (pc' := 74) d_F_join_73 rfl rfl ?_
    refine VW.iload (pc' := 76) d_F_join_74 rfl rfl ?_
    refine VW.icmp_ge (tgt := 93) (pc' := 79) d_F_join_76 rfl rfl (fun c76 => ?_) (fun c76 => ?_)
    case refine_1 => exact absurd c76 (by omega)
    refine VW.iload_n (pc' := 80) d_F_join_79 rfl rfl ?_
    refine VW.if_lt (tgt := 93) (pc' := 83) d_F_join_80 rfl rfl (fun c80 => ?_) (fun c80 => ?_)
    case refine_1 => exact absurd c80 (by omega)
    refine VW.iload_n (pc' := 84) d_F_join_83 rfl rfl ?_
    refine VW.iload (pc' := 86) d_F_join_84 rfl rfl ?_
    refine VW.icmp_ge (tgt := 93) (pc' := 89) d_F_join_86 rfl rfl (fun c86 => ?_) (fun c86 => ?_)
    case refine_1 => exact absurd c86 (by omega)
    refine VW.iconst (pc' := 90) d_F_join_89 rfl (by decide) ?_
    refine VW.goto (pc' := 94) d_F_join_90 rfl ?_
    refine VW.callSX (pc' := 97) d_F_join_94 rfl (sp_F_demandPlace1 (by decide)) rfl ms_F_demandPlace.1 ms_F_demandPlace.2.1 rfl ms_F_demandPlace.2.2 lk_F_97 rfl rfl rfl (by decide) (by decide) (fun _ _ _ _ _ hz => by cases hz.1) (fun r _ _ _ _ hz => ?_)
    obtain ⟨z1, z2, z3, z4, z5⟩ := hz
    cases z1
    replace z2 := z2.symm; replace z3 := z3.symm; replace z4 := z4.symm; replace z5 := z5.symm
    subst z2; subst z3; subst z4; subst z5
    refine VW.iload_n (pc' := 98) d_F_join_97 rfl rfl ?_
    refine VW.if_lt (tgt := 110) (pc' := 101) d_F_join_98 rfl rfl (fun c98 => ?_) (fun c98 => ?_)
    case refine_1 => exact absurd c98 (by decide)
    refine VW.iload_n (pc' := 102) d_F_join_101 rfl rfl ?_
    refine VW.iconst (pc' := 103) d_F_join_102 rfl (by decide) ?_
    refine VW.icmp_gt (tgt := 110) (pc' := 106) d_F_join_103 rfl rfl (fun c103 => ?_) (fun c103 => ?_)
    case refine_1 => exact absurd c103 (by decide)
    refine VW.iconst (pc' := 107) d_F_join_106 rfl (by decide) ?_
    refine VW.goto (pc' := 111) d_F_join_107 rfl ?_
    refine VW.callSX (pc' := 114) d_F_join_111 rfl (sp_F_demandRange1 (by decide)) rfl ms_F_demandRange.1 ms_F_demandRange.2.1 rfl ms_F_demandRange.2.2 lk_F_70 rfl rfl rfl (by decide) (by decide) (fun _ _ _ _ _ hz => by cases hz.1) (fun r _ _ _ _ hz => ?_)
    obtain ⟨z1, z2, z3, z4, z5⟩ := hz
    cases z1
    replace z2 := z2.symm; replace z3 := z3.symm; replace z4 := z4.symm; replace z5 := z5.symm
    subst z2; subst z3; subst z4; subst z5
    refine VW.aload_n (pc' := 115) d_F_join_114 rfl rfl ?_
    refine VW.gP (ci := 10) (T := T10) (N := 11) (k := 10) (k' := 10) (pc' := 118) d_F_join_115 rfl lk_F_66 in10 rfl rfl rfl rfl (by first | exact hC.k 0 rfl | exact hC.k 2 rfl | exact hC.k 3 rfl | exact hQ.k) (by first | exact hp | exact hC.p 0 rfl | exact hC.p 9 rfl | rfl) ?_
    refine VW.iconst (pc' := 119) d_F_join_118 rfl (by decide) ?_
    refine VW.iload (pc' := 121) d_F_join_119 rfl rfl ?_
    refine VW.if_eq (tgt := 129) (pc' := 124) d_F_join_121 rfl rfl (fun c121 => absurd c121 (by decide)) (fun _ => ?_)
    refine VW.iload (pc' := 126) d_F_join_124 rfl rfl ?_
    refine VW.goto (pc' := 134) d_F_join_126 rfl ?_
    refine VW.iload_n (pc' := 135) d_F_join_134 rfl rfl ?_
    refine VW.iload_n (pc' := 136) d_F_join_135 rfl rfl ?_
    refine VW.iload_n (pc' := 137) d_F_join_136 rfl rfl ?_
    refine VW.cV (ci := 4) (T := T4) (N := 13) (pc' := 140) d_F_join_137 rfl mv_Query_putOnTwo lk_F_251 rfl (by first | exact hC.k 0 rfl | exact hC.k 2 rfl | exact hC.k 3 rfl | exact hQ.k) rfl rfl rfl (by decide) (by decide) (sp_Query_putOnTwo hQ ⟨h0, ht.2⟩ ⟨ht.1, h7⟩) rfl rfl ?_
    refine VW.aload_n (pc' := 141) d_F_join_140 rfl rfl ?_
    refine VW.gP (ci := 10) (T := T10) (N := 11) (k := 10) (k' := 10) (pc' := 144) d_F_join_141 rfl lk_F_66 in10 rfl rfl rfl rfl (by first | exact hC.k 0 rfl | exact hC.k 2 rfl | exact hC.k 3 rfl | exact hQ.k) (by first | exact hp | exact hC.p 0 rfl | exact hC.p 9 rfl | rfl) ?_
    refine VW.gI (ci := 4) (T := T4) (N := 13) (k := 7) (k' := 7) (pc' := 147) d_F_join_144 rfl lk_F_228 in4 rfl rfl rfl rfl (by first | exact hC.k 0 rfl | exact hC.k 2 rfl | exact hC.k 3 rfl | exact hQ.k) (by first | exact hp | exact hC.p 0 rfl | exact hC.p 9 rfl | rfl) ?_
    exact VW.iret d_F_join_147 rfl rfl (by decide) (by decide) ex_rf
  · rw [if_neg (by omega)] at hx; subst hx
    refine Sp.ofV (by decide) (Or.inl rfl) rfl ?_
    refine VW.aload_n (pc' := 1) d_F_join_0 rfl rfl ?_
    refine VW.gP (ci := 10) (T := T10) (N := 11) (k := 10) (k' := 10) (pc' := 4) d_F_join_1 rfl lk_F_66 in10 rfl rfl rfl rfl (by first | exact hC.k 0 rfl | exact hC.k 2 rfl | exact hC.k 3 rfl | exact hQ.k) (by first | exact hp | exact hC.p 0 rfl | exact hC.p 9 rfl | rfl) ?_
    refine VW.iconst (pc' := 5) d_F_join_4 rfl (by decide) ?_
    refine VW.cV (ci := 4) (T := T4) (N := 13) (pc' := 8) d_F_join_5 rfl mv_Query_takesOperator lk_F_238 rfl (by first | exact hC.k 0 rfl | exact hC.k 2 rfl | exact hC.k 3 rfl | exact hQ.k) rfl rfl rfl (by decide) (by decide) (tkY hQ ht) rfl rfl ?_
    refine VW.callSX (pc' := 11) d_F_join_8 rfl (sp_F_demandState1 (by decide)) rfl ms_F_demandState.1 ms_F_demandState.2.1 rfl ms_F_demandState.2.2 lk_F_82 rfl rfl rfl (by decide) (by decide) (fun _ _ _ _ _ hz => by cases hz.1) (fun r _ _ _ _ hz => ?_)
    obtain ⟨z1, z2, z3, z4, z5⟩ := hz
    cases z1
    replace z2 := z2.symm; replace z3 := z3.symm; replace z4 := z4.symm; replace z5 := z5.symm
    subst z2; subst z3; subst z4; subst z5
    refine VW.iload_n (pc' := 12) d_F_join_11 rfl rfl ?_
    refine VW.iconst (pc' := 13) d_F_join_12 rfl (by decide) ?_
    refine VW.icmp_eq (tgt := 21) (pc' := 16) d_F_join_13 rfl rfl (fun c13 => ?_) (fun c13 => ?_)
    case refine_1 => exact absurd c13 (hw.1.1)
    refine VW.iload_n (pc' := 17) d_F_join_16 rfl rfl ?_
    refine VW.iconst (pc' := 18) d_F_join_17 rfl (by decide) ?_
    refine VW.icmp_ne (tgt := 25) (pc' := 21) d_F_join_18 rfl rfl (fun c18 => ?_) (fun c18 => ?_)
    case refine_2 => exact absurd c18 (hw.1.2)
    refine VW.iconst (pc' := 26) d_F_join_25 rfl (by decide) ?_
    refine VW.istore (pc' := 28) d_F_join_26 rfl rfl ?_
    refine VW.aload_n (pc' := 29) d_F_join_28 rfl rfl ?_
    refine VW.gP (ci := 10) (T := T10) (N := 11) (k := 10) (k' := 10) (pc' := 32) d_F_join_29 rfl lk_F_66 in10 rfl rfl rfl rfl (by first | exact hC.k 0 rfl | exact hC.k 2 rfl | exact hC.k 3 rfl | exact hQ.k) (by first | exact hp | exact hC.p 0 rfl | exact hC.p 9 rfl | rfl) ?_
    refine VW.cV (ci := 4) (T := T4) (N := 13) (pc' := 35) d_F_join_32 rfl mv_Query_earlierWidth lk_F_248 rfl (by first | exact hC.k 0 rfl | exact hC.k 2 rfl | exact hC.k 3 rfl | exact hQ.k) rfl rfl rfl (by decide) (by decide) (sp_Query_earlierWidth hQ hB) rfl rfl ?_
    refine VW.istore (pc' := 37) d_F_join_35 rfl rfl ?_
    refine VW.aload_n (pc' := 38) d_F_join_37 rfl rfl ?_
    refine VW.gP (ci := 10) (T := T10) (N := 11) (k := 10) (k' := 10) (pc' := 41) d_F_join_38 rfl lk_F_66 in10 rfl rfl rfl rfl (by first | exact hC.k 0 rfl | exact hC.k 2 rfl | exact hC.k 3 rfl | exact hQ.k) (by first | exact hp | exact hC.p 0 rfl | exact hC.p 9 rfl | rfl) ?_
    refine VW.cV (ci := 4) (T := T4) (N := 13) (pc' := 44) d_F_join_41 rfl mv_Query_lastWidth lk_F_241 rfl (by first | exact hC.k 0 rfl | exact hC.k 2 rfl | exact hC.k 3 rfl | exact hQ.k) rfl rfl rfl (by decide) (by decide) (sp_Query_lastWidth hQ hB) rfl rfl ?_
    refine VW.istore (pc' := 46) d_F_join_44 rfl rfl ?_
    refine VW.iload (pc' := 48) d_F_join_46 rfl rfl ?_
    refine VW.if_ne (tgt := 61) (pc' := 51) d_F_join_48 rfl rfl (fun c48 => absurd c48 (by decide)) (fun _ => ?_)
    refine VW.iload (pc' := 53) d_F_join_51 rfl rfl ?_
    refine VW.iload (pc' := 55) d_F_join_53 rfl rfl ?_
    refine VW.iadd (pc' := 56) d_F_join_55 rfl (by omega) ?_
    refine VW.bipush (pc' := 58) d_F_join_56 rfl (by decide) ?_
    refine VW.icmp_gt (tgt := 65) (pc' := 61) d_F_join_58 rfl rfl (fun c58 => ?_) (fun c58 => ?_)
    case refine_1 => exact absurd c58 (by omega)
    refine VW.iconst (pc' := 62) d_F_join_61 rfl (by decide) ?_
    refine VW.goto (pc' := 66) d_F_join_62 rfl ?_
    refine VW.callSX (pc' := 69) d_F_join_66 rfl (sp_F_demandState1 (by decide)) rfl ms_F_demandState.1 ms_F_demandState.2.1 rfl ms_F_demandState.2.2 lk_F_82 rfl rfl rfl (by decide) (by decide) (fun _ _ _ _ _ hz => by cases hz.1) (fun r _ _ _ _ hz => ?_)
    obtain ⟨z1, z2, z3, z4, z5⟩ := hz
    cases z1
    replace z2 := z2.symm; replace z3 := z3.symm; replace z4 := z4.symm; replace z5 := z5.symm
    subst z2; subst z3; subst z4; subst z5
    refine VW.iload_n (pc' := 70) d_F_join_69 rfl rfl ?_
    refine VW.if_lt (tgt := 93) (pc' := 73) d_F_join_70 rfl rfl (fun c70 => ?_) (fun c70 => ?_)
    case refine_1 => exact absurd c70 (by omega)
    refine VW.iload_n (pc' := 74) d_F_join_73 rfl rfl ?_
    refine VW.iload (pc' := 76) d_F_join_74 rfl rfl ?_
    refine VW.icmp_ge (tgt := 93) (pc' := 79) d_F_join_76 rfl rfl (fun c76 => ?_) (fun c76 => ?_)
    case refine_1 => exact absurd c76 (by omega)
    refine VW.iload_n (pc' := 80) d_F_join_79 rfl rfl ?_
    refine VW.if_lt (tgt := 93) (pc' := 83) d_F_join_80 rfl rfl (fun c80 => ?_) (fun c80 => ?_)
    case refine_1 => exact absurd c80 (by omega)
    refine VW.iload_n (pc' := 84) d_F_join_83 rfl rfl ?_
    refine VW.iload (pc' := 86) d_F_join_84 rfl rfl ?_
    refine VW.icmp_ge (tgt := 93) (pc' := 89) d_F_join_86 rfl rfl (fun c86 => ?_) (fun c86 => ?_)
    case refine_1 => exact absurd c86 (by omega)
    refine VW.iconst (pc' := 90) d_F_join_89 rfl (by decide) ?_
    refine VW.goto (pc' := 94) d_F_join_90 rfl ?_
    refine VW.callSX (pc' := 97) d_F_join_94 rfl (sp_F_demandPlace1 (by decide)) rfl ms_F_demandPlace.1 ms_F_demandPlace.2.1 rfl ms_F_demandPlace.2.2 lk_F_97 rfl rfl rfl (by decide) (by decide) (fun _ _ _ _ _ hz => by cases hz.1) (fun r _ _ _ _ hz => ?_)
    obtain ⟨z1, z2, z3, z4, z5⟩ := hz
    cases z1
    replace z2 := z2.symm; replace z3 := z3.symm; replace z4 := z4.symm; replace z5 := z5.symm
    subst z2; subst z3; subst z4; subst z5
    refine VW.iload_n (pc' := 98) d_F_join_97 rfl rfl ?_
    refine VW.if_lt (tgt := 110) (pc' := 101) d_F_join_98 rfl rfl (fun c98 => ?_) (fun c98 => ?_)
    case refine_1 => exact absurd c98 (by omega)
    refine VW.iload_n (pc' := 102) d_F_join_101 rfl rfl ?_
    refine VW.iconst (pc' := 103) d_F_join_102 rfl (by decide) ?_
    refine VW.icmp_gt (tgt := 110) (pc' := 106) d_F_join_103 rfl rfl (fun c103 => ?_) (fun c103 => ?_)
    case refine_1 => exact absurd c103 (by omega)
    refine VW.iconst (pc' := 107) d_F_join_106 rfl (by decide) ?_
    refine VW.goto (pc' := 111) d_F_join_107 rfl ?_
    refine VW.callSX (pc' := 114) d_F_join_111 rfl (sp_F_demandRange1 (by decide)) rfl ms_F_demandRange.1 ms_F_demandRange.2.1 rfl ms_F_demandRange.2.2 lk_F_70 rfl rfl rfl (by decide) (by decide) (fun _ _ _ _ _ hz => by cases hz.1) (fun r _ _ _ _ hz => ?_)
    obtain ⟨z1, z2, z3, z4, z5⟩ := hz
    cases z1
    replace z2 := z2.symm; replace z3 := z3.symm; replace z4 := z4.symm; replace z5 := z5.symm
    subst z2; subst z3; subst z4; subst z5
    refine VW.aload_n (pc' := 115) d_F_join_114 rfl rfl ?_
    refine VW.gP (ci := 10) (T := T10) (N := 11) (k := 10) (k' := 10) (pc' := 118) d_F_join_115 rfl lk_F_66 in10 rfl rfl rfl rfl (by first | exact hC.k 0 rfl | exact hC.k 2 rfl | exact hC.k 3 rfl | exact hQ.k) (by first | exact hp | exact hC.p 0 rfl | exact hC.p 9 rfl | rfl) ?_
    refine VW.iconst (pc' := 119) d_F_join_118 rfl (by decide) ?_
    refine VW.iload (pc' := 121) d_F_join_119 rfl rfl ?_
    refine VW.if_eq (tgt := 129) (pc' := 124) d_F_join_121 rfl rfl (fun _ => ?_) (fun c121 => absurd c121 (by decide))
    refine VW.iload (pc' := 131) d_F_join_129 rfl rfl ?_
    refine VW.iload (pc' := 133) d_F_join_131 rfl rfl ?_
    refine VW.iadd (pc' := 134) d_F_join_133 rfl (by omega) ?_
    refine VW.iload_n (pc' := 135) d_F_join_134 rfl rfl ?_
    refine VW.iload_n (pc' := 136) d_F_join_135 rfl rfl ?_
    refine VW.iload_n (pc' := 137) d_F_join_136 rfl rfl ?_
    refine VW.cV (ci := 4) (T := T4) (N := 13) (pc' := 140) d_F_join_137 rfl mv_Query_putOnTwo lk_F_251 rfl (by first | exact hC.k 0 rfl | exact hC.k 2 rfl | exact hC.k 3 rfl | exact hQ.k) rfl rfl rfl (by decide) (by decide) (sp_Query_putOnTwo hQ ⟨h0, ht.2⟩ ⟨ht.1, h7⟩) rfl rfl ?_
    refine VW.aload_n (pc' := 141) d_F_join_140 rfl rfl ?_
    refine VW.gP (ci := 10) (T := T10) (N := 11) (k := 10) (k' := 10) (pc' := 144) d_F_join_141 rfl lk_F_66 in10 rfl rfl rfl rfl (by first | exact hC.k 0 rfl | exact hC.k 2 rfl | exact hC.k 3 rfl | exact hQ.k) (by first | exact hp | exact hC.p 0 rfl | exact hC.p 9 rfl | rfl) ?_
    refine VW.gI (ci := 4) (T := T4) (N := 13) (k := 7) (k' := 7) (pc' := 147) d_F_join_144 rfl lk_F_228 in4 rfl rfl rfl rfl (by first | exact hC.k 0 rfl | exact hC.k 2 rfl | exact hC.k 3 rfl | exact hQ.k) (by first | exact hp | exact hC.p 0 rfl | exact hC.p 9 rfl | rfl) ?_
    exact VW.iret d_F_join_147 rfl rfl (by decide) (by decide) ex_rf
end
