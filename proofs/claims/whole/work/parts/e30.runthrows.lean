/-! run, atByLoops: where they may not be called -/
section
variable {K : KT} {P : PT} {J I : IT} {n lq i nq : Nat} {lv mv : Nat → Nat} {a y p3 p4 : Int}
theorem run_no1 (hC : ClW K P) (hL : EnL K P I n lq lv mv) (hz : I 1480 2 = (nq : Int)) (h : ¬ ((0 ≤ a ∧ a < n) ∧ 0 ≤ y ∧ y < nq)) : Sp m_F_run true ({ frames := 12, cells := 1, slots := 6, locals := 400 } : Room) (ex K P J I (.inr eIOO)) K P J I [vR (some 1000), vI a, vI y] := by
  have spH := sp_Engine_hasTransaction (J := J) hC hL (a := a)
  by_cases ha : 0 ≤ a ∧ a < n
  · rw [bI1 ha] at spH
    have spY := F_hasQ0 (J := J) hC hz (a := y) (fun u => h ⟨ha, u⟩)
    refine Sp.ofV (by decide) (Or.inl rfl) rfl ?_
    refine VW.aload_n (pc' := 1) d_F_run_0 rfl rfl ?_
    refine VW.gP (ci := 10) (T := T10) (N := 11) (k := 1) (k' := 1) (pc' := 4) d_F_run_1 rfl lk_F_21 in10 rfl rfl rfl rfl (by first | exact hC.k 0 rfl | exact hC.k 9 rfl | exact hC.k 54 rfl) (by first | exact hC.p 1 rfl | exact hC.p 4 rfl | exact hC.p 7 rfl | rfl) ?_
    refine VW.iload_n (pc' := 5) d_F_run_4 rfl rfl ?_
    refine VW.cV (ci := 0) (T := T0) (N := 8) (pc' := 8) d_F_run_5 rfl mv_Engine_hasTransaction lk_F_157 rfl (by first | exact hC.k 0 rfl | exact hC.k 9 rfl | exact hC.k 54 rfl) rfl rfl rfl (by decide) (by decide) (spH) rfl rfl ?_
    refine VW.if_eq (tgt := 23) (pc' := 11) d_F_run_8 rfl rfl (fun c8 => ?_) (fun c8 => ?_)
    · exact absurd c8 (by decide)
    refine VW.aload_n (pc' := 12) d_F_run_11 rfl rfl ?_
    refine VW.iload_n (pc' := 13) d_F_run_12 rfl rfl ?_
    refine VW.cV (ci := 10) (T := T10) (N := 11) (pc' := 16) d_F_run_13 rfl mv_F_hasQuery lk_F_267 rfl (by first | exact hC.k 0 rfl | exact hC.k 9 rfl | exact hC.k 54 rfl) rfl rfl rfl (by decide) (by decide) (spY) rfl rfl ?_
    refine VW.if_eq (tgt := 23) (pc' := 19) d_F_run_16 rfl rfl (fun c16 => ?_) (fun c16 => absurd rfl c16)
    refine VW.iconst (pc' := 24) d_F_run_23 rfl (by decide) ?_
    refine VW.callSX (pc' := 27) d_F_run_24 rfl (sp_F_demandPlace0) rfl ms_F_demandPlace.1 ms_F_demandPlace.2.1 rfl ms_F_demandPlace.2.2 lk_F_97 rfl rfl rfl (by decide) (by decide) (fun _ _ _ _ _ hz => ?_) (fun _ _ _ _ _ hz => by cases hz.1)
    obtain ⟨z1, z2, z3, z4, z5⟩ := hz
    cases z1
    replace z2 := z2.symm; replace z3 := z3.symm; replace z4 := z4.symm; replace z5 := z5.symm
    subst z2; subst z3; subst z4; subst z5
    exact Or.inl ⟨rfl, ex_rf⟩
  · rw [bI0 ha] at spH
    refine Sp.ofV (by decide) (Or.inl rfl) rfl ?_
    refine VW.aload_n (pc' := 1) d_F_run_0 rfl rfl ?_
    refine VW.gP (ci := 10) (T := T10) (N := 11) (k := 1) (k' := 1) (pc' := 4) d_F_run_1 rfl lk_F_21 in10 rfl rfl rfl rfl (by first | exact hC.k 0 rfl | exact hC.k 9 rfl | exact hC.k 54 rfl) (by first | exact hC.p 1 rfl | exact hC.p 4 rfl | exact hC.p 7 rfl | rfl) ?_
    refine VW.iload_n (pc' := 5) d_F_run_4 rfl rfl ?_
    refine VW.cV (ci := 0) (T := T0) (N := 8) (pc' := 8) d_F_run_5 rfl mv_Engine_hasTransaction lk_F_157 rfl (by first | exact hC.k 0 rfl | exact hC.k 9 rfl | exact hC.k 54 rfl) rfl rfl rfl (by decide) (by decide) (spH) rfl rfl ?_
    refine VW.if_eq (tgt := 23) (pc' := 11) d_F_run_8 rfl rfl (fun c8 => ?_) (fun c8 => absurd rfl c8)
    refine VW.iconst (pc' := 24) d_F_run_23 rfl (by decide) ?_
    refine VW.callSX (pc' := 27) d_F_run_24 rfl (sp_F_demandPlace0) rfl ms_F_demandPlace.1 ms_F_demandPlace.2.1 rfl ms_F_demandPlace.2.2 lk_F_97 rfl rfl rfl (by decide) (by decide) (fun _ _ _ _ _ hz => ?_) (fun _ _ _ _ _ hz => by cases hz.1)
    obtain ⟨z1, z2, z3, z4, z5⟩ := hz
    cases z1
    replace z2 := z2.symm; replace z3 := z3.symm; replace z4 := z4.symm; replace z5 := z5.symm
    subst z2; subst z3; subst z4; subst z5
    exact Or.inl ⟨rfl, ex_rf⟩
theorem run_no2 (hC : ClW K P) (hL : EnL K P I n lq lv mv) (hz : I 1480 2 = (nq : Int)) (hi : i < n) (hy : 0 ≤ y ∧ y < nq) (h4 : I (tX i) 4 ≠ 0) : Sp m_F_run true ({ frames := 12, cells := 1, slots := 6, locals := 400 } : Room) (ex K P J I (.inr eISE)) K P J I [vR (some 1000), vI (i : Int), vI y] := by
  have spH := F_hasT1 (J := J) hC hL (a := (i : Int)) ⟨by omega, by omega⟩
  have spY := F_hasQ1 (J := J) hC hz (a := y) hy
  have spA := sp_F_active0 (J := J) hC hL hi h4
  refine Sp.ofV (by decide) (Or.inl rfl) rfl ?_
  refine VW.aload_n (pc' := 1) d_F_run_0 rfl rfl ?_
  refine VW.gP (ci := 10) (T := T10) (N := 11) (k := 1) (k' := 1) (pc' := 4) d_F_run_1 rfl lk_F_21 in10 rfl rfl rfl rfl (by first | exact hC.k 0 rfl | exact hC.k 9 rfl | exact hC.k 54 rfl) (by first | exact hC.p 1 rfl | exact hC.p 4 rfl | exact hC.p 7 rfl | rfl) ?_
  refine VW.iload_n (pc' := 5) d_F_run_4 rfl rfl ?_
  refine VW.cV (ci := 0) (T := T0) (N := 8) (pc' := 8) d_F_run_5 rfl mv_Engine_hasTransaction lk_F_157 rfl (by first | exact hC.k 0 rfl | exact hC.k 9 rfl | exact hC.k 54 rfl) rfl rfl rfl (by decide) (by decide) (spH) rfl rfl ?_
  refine VW.if_eq (tgt := 23) (pc' := 11) d_F_run_8 rfl rfl (fun c8 => absurd c8 (by decide)) (fun c8 => ?_)
  refine VW.aload_n (pc' := 12) d_F_run_11 rfl rfl ?_
  refine VW.iload_n (pc' := 13) d_F_run_12 rfl rfl ?_
  refine VW.cV (ci := 10) (T := T10) (N := 11) (pc' := 16) d_F_run_13 rfl mv_F_hasQuery lk_F_267 rfl (by first | exact hC.k 0 rfl | exact hC.k 9 rfl | exact hC.k 54 rfl) rfl rfl rfl (by decide) (by decide) (spY) rfl rfl ?_
  refine VW.if_eq (tgt := 23) (pc' := 19) d_F_run_16 rfl rfl (fun c16 => absurd c16 (by decide)) (fun c16 => ?_)
  refine VW.iconst (pc' := 20) d_F_run_19 rfl (by decide) ?_
  refine VW.goto (pc' := 24) d_F_run_20 rfl ?_
  refine VW.callSX (pc' := 27) d_F_run_24 rfl (sp_F_demandPlace1 (by decide)) rfl ms_F_demandPlace.1 ms_F_demandPlace.2.1 rfl ms_F_demandPlace.2.2 lk_F_97 rfl rfl rfl (by decide) (by decide) (fun _ _ _ _ _ hz => by cases hz.1) (fun r _ _ _ _ hz => ?_)
  obtain ⟨z1, z2, z3, z4, z5⟩ := hz
  cases z1
  replace z2 := z2.symm; replace z3 := z3.symm; replace z4 := z4.symm; replace z5 := z5.symm
  subst z2; subst z3; subst z4; subst z5
  refine VW.aload_n (pc' := 28) d_F_run_27 rfl rfl ?_
  refine VW.iload_n (pc' := 29) d_F_run_28 rfl rfl ?_
  refine VW.callVX (ci := 10) (T := T10) (N := 11) (pc' := 32) d_F_run_29 rfl (spA) rfl mv_F_activeTransaction.1 mv_F_activeTransaction.2.1 rfl mv_F_activeTransaction.2.2.1 mv_F_activeTransaction.2.2.2 lk_F_160 rfl (by first | exact hC.k 0 rfl | exact hC.k 9 rfl | exact hC.k 54 rfl) rfl rfl rfl (by decide) (by decide) (fun _ _ _ _ _ hz => ?_) (fun _ _ _ _ _ hz => by cases hz.1)
  obtain ⟨z1, z2, z3, z4, z5⟩ := hz
  cases z1
  replace z2 := z2.symm; replace z3 := z3.symm; replace z4 := z4.symm; replace z5 := z5.symm
  subst z2; subst z3; subst z4; subst z5
  exact Or.inl ⟨rfl, ex_rf⟩
theorem atByLoops_no1 (hC : ClW K P) (hL : EnL K P I n lq lv mv) (hz : I 1480 2 = (nq : Int)) (h : ¬ ((0 ≤ a ∧ a < n) ∧ 0 ≤ y ∧ y < nq)) : Sp m_F_atByLoops true ({ frames := 12, cells := 1, slots := 6, locals := 400 } : Room) (ex K P J I (.inr eIOO)) K P J I [vR (some 1000), vI a, vI y, vI p3, vI p4] := by
  have spH := sp_Engine_hasTransaction (J := J) hC hL (a := a)
  by_cases ha : 0 ≤ a ∧ a < n
  · rw [bI1 ha] at spH
    have spY := F_hasQ0 (J := J) hC hz (a := y) (fun u => h ⟨ha, u⟩)
    refine Sp.ofV (by decide) (Or.inl rfl) rfl ?_
    refine VW.aload_n (pc' := 1) d_F_atByLoops_0 rfl rfl ?_
    refine VW.gP (ci := 10) (T := T10) (N := 11) (k := 1) (k' := 1) (pc' := 4) d_F_atByLoops_1 rfl lk_F_21 in10 rfl rfl rfl rfl (by first | exact hC.k 0 rfl | exact hC.k 9 rfl | exact hC.k 54 rfl) (by first | exact hC.p 1 rfl | exact hC.p 4 rfl | exact hC.p 7 rfl | rfl) ?_
    refine VW.iload_n (pc' := 5) d_F_atByLoops_4 rfl rfl ?_
    refine VW.cV (ci := 0) (T := T0) (N := 8) (pc' := 8) d_F_atByLoops_5 rfl mv_Engine_hasTransaction lk_F_157 rfl (by first | exact hC.k 0 rfl | exact hC.k 9 rfl | exact hC.k 54 rfl) rfl rfl rfl (by decide) (by decide) (spH) rfl rfl ?_
    refine VW.if_eq (tgt := 23) (pc' := 11) d_F_atByLoops_8 rfl rfl (fun c8 => ?_) (fun c8 => ?_)
    · exact absurd c8 (by decide)
    refine VW.aload_n (pc' := 12) d_F_atByLoops_11 rfl rfl ?_
    refine VW.iload_n (pc' := 13) d_F_atByLoops_12 rfl rfl ?_
    refine VW.cV (ci := 10) (T := T10) (N := 11) (pc' := 16) d_F_atByLoops_13 rfl mv_F_hasQuery lk_F_267 rfl (by first | exact hC.k 0 rfl | exact hC.k 9 rfl | exact hC.k 54 rfl) rfl rfl rfl (by decide) (by decide) (spY) rfl rfl ?_
    refine VW.if_eq (tgt := 23) (pc' := 19) d_F_atByLoops_16 rfl rfl (fun c16 => ?_) (fun c16 => absurd rfl c16)
    refine VW.iconst (pc' := 24) d_F_atByLoops_23 rfl (by decide) ?_
    refine VW.callSX (pc' := 27) d_F_atByLoops_24 rfl (sp_F_demandPlace0) rfl ms_F_demandPlace.1 ms_F_demandPlace.2.1 rfl ms_F_demandPlace.2.2 lk_F_97 rfl rfl rfl (by decide) (by decide) (fun _ _ _ _ _ hz => ?_) (fun _ _ _ _ _ hz => by cases hz.1)
    obtain ⟨z1, z2, z3, z4, z5⟩ := hz
    cases z1
    replace z2 := z2.symm; replace z3 := z3.symm; replace z4 := z4.symm; replace z5 := z5.symm
    subst z2; subst z3; subst z4; subst z5
    exact Or.inl ⟨rfl, ex_rf⟩
  · rw [bI0 ha] at spH
    refine Sp.ofV (by decide) (Or.inl rfl) rfl ?_
    refine VW.aload_n (pc' := 1) d_F_atByLoops_0 rfl rfl ?_
    refine VW.gP (ci := 10) (T := T10) (N := 11) (k := 1) (k' := 1) (pc' := 4) d_F_atByLoops_1 rfl lk_F_21 in10 rfl rfl rfl rfl (by first | exact hC.k 0 rfl | exact hC.k 9 rfl | exact hC.k 54 rfl) (by first | exact hC.p 1 rfl | exact hC.p 4 rfl | exact hC.p 7 rfl | rfl) ?_
    refine VW.iload_n (pc' := 5) d_F_atByLoops_4 rfl rfl ?_
    refine VW.cV (ci := 0) (T := T0) (N := 8) (pc' := 8) d_F_atByLoops_5 rfl mv_Engine_hasTransaction lk_F_157 rfl (by first | exact hC.k 0 rfl | exact hC.k 9 rfl | exact hC.k 54 rfl) rfl rfl rfl (by decide) (by decide) (spH) rfl rfl ?_
    refine VW.if_eq (tgt := 23) (pc' := 11) d_F_atByLoops_8 rfl rfl (fun c8 => ?_) (fun c8 => absurd rfl c8)
    refine VW.iconst (pc' := 24) d_F_atByLoops_23 rfl (by decide) ?_
    refine VW.callSX (pc' := 27) d_F_atByLoops_24 rfl (sp_F_demandPlace0) rfl ms_F_demandPlace.1 ms_F_demandPlace.2.1 rfl ms_F_demandPlace.2.2 lk_F_97 rfl rfl rfl (by decide) (by decide) (fun _ _ _ _ _ hz => ?_) (fun _ _ _ _ _ hz => by cases hz.1)
    obtain ⟨z1, z2, z3, z4, z5⟩ := hz
    cases z1
    replace z2 := z2.symm; replace z3 := z3.symm; replace z4 := z4.symm; replace z5 := z5.symm
    subst z2; subst z3; subst z4; subst z5
    exact Or.inl ⟨rfl, ex_rf⟩
theorem atByLoops_no2 (hC : ClW K P) (hL : EnL K P I n lq lv mv) (hz : I 1480 2 = (nq : Int)) (hi : i < n) (hy : 0 ≤ y ∧ y < nq) (h4 : I (tX i) 4 ≠ 0) : Sp m_F_atByLoops true ({ frames := 12, cells := 1, slots := 6, locals := 400 } : Room) (ex K P J I (.inr eISE)) K P J I [vR (some 1000), vI (i : Int), vI y, vI p3, vI p4] := by
  have spH := F_hasT1 (J := J) hC hL (a := (i : Int)) ⟨by omega, by omega⟩
  have spY := F_hasQ1 (J := J) hC hz (a := y) hy
  have spA := sp_F_active0 (J := J) hC hL hi h4
  refine Sp.ofV (by decide) (Or.inl rfl) rfl ?_
  refine VW.aload_n (pc' := 1) d_F_atByLoops_0 rfl rfl ?_
  refine VW.gP (ci := 10) (T := T10) (N := 11) (k := 1) (k' := 1) (pc' := 4) d_F_atByLoops_1 rfl lk_F_21 in10 rfl rfl rfl rfl (by first | exact hC.k 0 rfl | exact hC.k 9 rfl | exact hC.k 54 rfl) (by first | exact hC.p 1 rfl | exact hC.p 4 rfl | exact hC.p 7 rfl | rfl) ?_
  refine VW.iload_n (pc' := 5) d_F_atByLoops_4 rfl rfl ?_
  refine VW.cV (ci := 0) (T := T0) (N := 8) (pc' := 8) d_F_atByLoops_5 rfl mv_Engine_hasTransaction lk_F_157 rfl (by first | exact hC.k 0 rfl | exact hC.k 9 rfl | exact hC.k 54 rfl) rfl rfl rfl (by decide) (by decide) (spH) rfl rfl ?_
  refine VW.if_eq (tgt := 23) (pc' := 11) d_F_atByLoops_8 rfl rfl (fun c8 => absurd c8 (by decide)) (fun c8 => ?_)
  refine VW.aload_n (pc' := 12) d_F_atByLoops_11 rfl rfl ?_
  refine VW.iload_n (pc' := 13) d_F_atByLoops_12 rfl rfl ?_
  refine VW.cV (ci := 10) (T := T10) (N := 11) (pc' := 16) d_F_atByLoops_13 rfl mv_F_hasQuery lk_F_267 rfl (by first | exact hC.k 0 rfl | exact hC.k 9 rfl | exact hC.k 54 rfl) rfl rfl rfl (by decide) (by decide) (spY) rfl rfl ?_
  refine VW.if_eq (tgt := 23) (pc' := 19) d_F_atByLoops_16 rfl rfl (fun c16 => absurd c16 (by decide)) (fun c16 => ?_)
  refine VW.iconst (pc' := 20) d_F_atByLoops_19 rfl (by decide) ?_
  refine VW.goto (pc' := 24) d_F_atByLoops_20 rfl ?_
  refine VW.callSX (pc' := 27) d_F_atByLoops_24 rfl (sp_F_demandPlace1 (by decide)) rfl ms_F_demandPlace.1 ms_F_demandPlace.2.1 rfl ms_F_demandPlace.2.2 lk_F_97 rfl rfl rfl (by decide) (by decide) (fun _ _ _ _ _ hz => by cases hz.1) (fun r _ _ _ _ hz => ?_)
  obtain ⟨z1, z2, z3, z4, z5⟩ := hz
  cases z1
  replace z2 := z2.symm; replace z3 := z3.symm; replace z4 := z4.symm; replace z5 := z5.symm
  subst z2; subst z3; subst z4; subst z5
  refine VW.aload_n (pc' := 28) d_F_atByLoops_27 rfl rfl ?_
  refine VW.iload_n (pc' := 29) d_F_atByLoops_28 rfl rfl ?_
  refine VW.callVX (ci := 10) (T := T10) (N := 11) (pc' := 32) d_F_atByLoops_29 rfl (spA) rfl mv_F_activeTransaction.1 mv_F_activeTransaction.2.1 rfl mv_F_activeTransaction.2.2.1 mv_F_activeTransaction.2.2.2 lk_F_160 rfl (by first | exact hC.k 0 rfl | exact hC.k 9 rfl | exact hC.k 54 rfl) rfl rfl rfl (by decide) (by decide) (fun _ _ _ _ _ hz => ?_) (fun _ _ _ _ _ hz => by cases hz.1)
  obtain ⟨z1, z2, z3, z4, z5⟩ := hz
  cases z1
  replace z2 := z2.symm; replace z3 := z3.symm; replace z4 := z4.symm; replace z5 := z5.symm
  subst z2; subst z3; subst z4; subst z5
  exact Or.inl ⟨rfl, ex_rf⟩
end
