/-! what the calls throw, on -/
section
variable {K : KT} {P : PT} {J I : IT} {n lq i : Nat} {lv mv : Nat → Nat} {a t y c v x : Int}
theorem update_no1 (hC : ClW K P) (hL : EnL K P I n lq lv mv) (h6 : I 1032 0 ≤ 6) (h : ¬ ((0 ≤ a ∧ a < n) ∧ ((0 ≤ t ∧ t < I 1032 0) ∧ 0 ≤ c ∧ c < I 1034 t) ∧ c ≠ 0)) : Sp m_F_update true ({ frames := 12, cells := 1, slots := 6, locals := 400 } : Room) (ex K P J I (.inr eIOO)) K P J I [vR (some 1000), vI a, vI t, vI y, vI c, vI v] := by
  have spH := sp_Engine_hasTransaction (J := J) hC hL (a := a)
  have spB := sp_Schema_hasColumn (J := J) (I := I) (a := t) (b := c) hC.sc h6
  refine Sp.ofV (by decide) (Or.inl rfl) rfl ?_
  refine VW.aload_n (pc' := 1) d_F_update_0 rfl rfl ?_
  refine VW.gP (ci := 10) (T := T10) (N := 11) (k := 1) (k' := 1) (pc' := 4) d_F_update_1 rfl lk_F_21 in10 rfl rfl rfl rfl (by first | exact hC.k 0 rfl | exact hC.k 9 rfl | exact hC.k 2 rfl | exact hC.k 3 rfl | exact hx) (by first | exact hC.p 1 rfl | exact hC.p 0 rfl | exact hC.p 9 rfl | rfl) ?_
  refine VW.iload_n (pc' := 5) d_F_update_4 rfl rfl ?_
  refine VW.cV (ci := 0) (T := T0) (N := 8) (pc' := 8) d_F_update_5 rfl mv_Engine_hasTransaction lk_F_157 rfl (by first | exact hC.k 0 rfl | exact hC.k 9 rfl | exact hC.k 2 rfl | exact hC.k 3 rfl | exact hx) rfl rfl rfl (by decide) (by decide) (spH) rfl rfl ?_
  refine VW.if_eq (tgt := 33) (pc' := 11) d_F_update_8 rfl rfl (fun c8 => ?_) (fun c8 => ?_)
  · try have e8 := bIe c8
    refine VW.iconst (pc' := 34) d_F_update_33 rfl (by decide) ?_
    refine VW.callSX (pc' := 37) d_F_update_34 rfl (sp_F_demandPlace0) rfl ms_F_demandPlace.1 ms_F_demandPlace.2.1 rfl ms_F_demandPlace.2.2 lk_F_97 rfl rfl rfl (by decide) (by decide) (fun _ _ _ _ _ hz => ?_) (fun _ _ _ _ _ hz => by cases hz.1)
    obtain ⟨z1, z2, z3, z4, z5⟩ := hz
    cases z1
    replace z2 := z2.symm; replace z3 := z3.symm; replace z4 := z4.symm; replace z5 := z5.symm
    subst z2; subst z3; subst z4; subst z5
    exact Or.inl ⟨rfl, ex_rf⟩
    -- end
  · try have e8 := bIn c8
    refine VW.aload_n (pc' := 12) d_F_update_11 rfl rfl ?_
    refine VW.gP (ci := 10) (T := T10) (N := 11) (k := 0) (k' := 0) (pc' := 15) d_F_update_12 rfl lk_F_12 in10 rfl rfl rfl rfl (by first | exact hC.k 0 rfl | exact hC.k 9 rfl | exact hC.k 2 rfl | exact hC.k 3 rfl | exact hx) (by first | exact hC.p 1 rfl | exact hC.p 0 rfl | exact hC.p 9 rfl | rfl) ?_
    refine VW.iload_n (pc' := 16) d_F_update_15 rfl rfl ?_
    refine VW.iload (pc' := 18) d_F_update_16 rfl rfl ?_
    refine VW.cV (ci := 7) (T := T7) (N := 8) (pc' := 21) d_F_update_18 rfl mv_Schema_hasColumn lk_F_93 rfl (by first | exact hC.k 0 rfl | exact hC.k 9 rfl | exact hC.k 2 rfl | exact hC.k 3 rfl | exact hx) rfl rfl rfl (by decide) (by decide) (spB) rfl rfl ?_
    refine VW.if_eq (tgt := 33) (pc' := 24) d_F_update_21 rfl rfl (fun c21 => ?_) (fun c21 => ?_)
    · try have e21 := bIe c21
      refine VW.iconst (pc' := 34) d_F_update_33 rfl (by decide) ?_
      refine VW.callSX (pc' := 37) d_F_update_34 rfl (sp_F_demandPlace0) rfl ms_F_demandPlace.1 ms_F_demandPlace.2.1 rfl ms_F_demandPlace.2.2 lk_F_97 rfl rfl rfl (by decide) (by decide) (fun _ _ _ _ _ hz => ?_) (fun _ _ _ _ _ hz => by cases hz.1)
      obtain ⟨z1, z2, z3, z4, z5⟩ := hz
      cases z1
      replace z2 := z2.symm; replace z3 := z3.symm; replace z4 := z4.symm; replace z5 := z5.symm
      subst z2; subst z3; subst z4; subst z5
      exact Or.inl ⟨rfl, ex_rf⟩
      -- end
    · try have e21 := bIn c21
      refine VW.iload (pc' := 26) d_F_update_24 rfl rfl ?_
      refine VW.if_eq (tgt := 33) (pc' := 29) d_F_update_26 rfl rfl (fun c26 => ?_) (fun c26 => ?_)
      · try have e26 := bIe c26
        refine VW.iconst (pc' := 34) d_F_update_33 rfl (by decide) ?_
        refine VW.callSX (pc' := 37) d_F_update_34 rfl (sp_F_demandPlace0) rfl ms_F_demandPlace.1 ms_F_demandPlace.2.1 rfl ms_F_demandPlace.2.2 lk_F_97 rfl rfl rfl (by decide) (by decide) (fun _ _ _ _ _ hz => ?_) (fun _ _ _ _ _ hz => by cases hz.1)
        obtain ⟨z1, z2, z3, z4, z5⟩ := hz
        cases z1
        replace z2 := z2.symm; replace z3 := z3.symm; replace z4 := z4.symm; replace z5 := z5.symm
        subst z2; subst z3; subst z4; subst z5
        exact Or.inl ⟨rfl, ex_rf⟩
        -- end
      · try have e26 := bIn c26
        refine VW.nrm ?_
        exact absurd ⟨e8, e21, c26⟩ h
theorem update_no2 (hC : ClW K P) (hL : EnL K P I n lq lv mv) (h6 : I 1032 0 ≤ 6) (hi : i < n) (hc : (0 ≤ t ∧ t < I 1032 0) ∧ 0 ≤ c ∧ c < I 1034 t) (c0 : c ≠ 0) (hv : ¬ okV v) : Sp m_F_update true ({ frames := 12, cells := 1, slots := 6, locals := 400 } : Room) (ex K P J I (.inr eIAE)) K P J I [vR (some 1000), vI (i : Int), vI t, vI y, vI c, vI v] := by
  have spH : Sp m_Engine_hasTransaction false (rmv 1 20) (ex K P J I (.inl (some (vI 1)))) K P J I [vR (some 1064), vI (i : Int)] := by
    have := sp_Engine_hasTransaction (J := J) hC hL (a := (i : Int))
    rw [bI1 (show 0 ≤ (i : Int) ∧ (i : Int) < n by omega)] at this
    exact this
  have spB : Sp m_Schema_hasColumn false (rmv 1 21) (ex K P J I (.inl (some (vI 1)))) K P J I [vR (some 1032), vI t, vI c] := by
    have := sp_Schema_hasColumn (J := J) (I := I) (a := t) (b := c) hC.sc h6
    rw [bI1 hc] at this
    exact this
  refine Sp.ofV (by decide) (Or.inl rfl) rfl ?_
  refine VW.aload_n (pc' := 1) d_F_update_0 rfl rfl ?_
  refine VW.gP (ci := 10) (T := T10) (N := 11) (k := 1) (k' := 1) (pc' := 4) d_F_update_1 rfl lk_F_21 in10 rfl rfl rfl rfl (by first | exact hC.k 0 rfl | exact hC.k 9 rfl | exact hC.k 2 rfl | exact hC.k 3 rfl | exact hx) (by first | exact hC.p 1 rfl | exact hC.p 0 rfl | exact hC.p 9 rfl | rfl) ?_
  refine VW.iload_n (pc' := 5) d_F_update_4 rfl rfl ?_
  refine VW.cV (ci := 0) (T := T0) (N := 8) (pc' := 8) d_F_update_5 rfl mv_Engine_hasTransaction lk_F_157 rfl (by first | exact hC.k 0 rfl | exact hC.k 9 rfl | exact hC.k 2 rfl | exact hC.k 3 rfl | exact hx) rfl rfl rfl (by decide) (by decide) (spH) rfl rfl ?_
  refine VW.if_eq (tgt := 33) (pc' := 11) d_F_update_8 rfl rfl (fun c8 => ?_) (fun c8 => ?_)
  case refine_1 => exact absurd c8 (by decide)
  refine VW.aload_n (pc' := 12) d_F_update_11 rfl rfl ?_
  refine VW.gP (ci := 10) (T := T10) (N := 11) (k := 0) (k' := 0) (pc' := 15) d_F_update_12 rfl lk_F_12 in10 rfl rfl rfl rfl (by first | exact hC.k 0 rfl | exact hC.k 9 rfl | exact hC.k 2 rfl | exact hC.k 3 rfl | exact hx) (by first | exact hC.p 1 rfl | exact hC.p 0 rfl | exact hC.p 9 rfl | rfl) ?_
  refine VW.iload_n (pc' := 16) d_F_update_15 rfl rfl ?_
  refine VW.iload (pc' := 18) d_F_update_16 rfl rfl ?_
  refine VW.cV (ci := 7) (T := T7) (N := 8) (pc' := 21) d_F_update_18 rfl mv_Schema_hasColumn lk_F_93 rfl (by first | exact hC.k 0 rfl | exact hC.k 9 rfl | exact hC.k 2 rfl | exact hC.k 3 rfl | exact hx) rfl rfl rfl (by decide) (by decide) (spB) rfl rfl ?_
  refine VW.if_eq (tgt := 33) (pc' := 24) d_F_update_21 rfl rfl (fun c21 => ?_) (fun c21 => ?_)
  case refine_1 => exact absurd c21 (by decide)
  refine VW.iload (pc' := 26) d_F_update_24 rfl rfl ?_
  refine VW.if_eq (tgt := 33) (pc' := 29) d_F_update_26 rfl rfl (fun c26 => ?_) (fun c26 => ?_)
  case refine_1 => exact absurd c26 (c0)
  refine VW.iconst (pc' := 30) d_F_update_29 rfl (by decide) ?_
  refine VW.goto (pc' := 34) d_F_update_30 rfl ?_
  refine VW.callSX (pc' := 37) d_F_update_34 rfl (sp_F_demandPlace1 (by decide)) rfl ms_F_demandPlace.1 ms_F_demandPlace.2.1 rfl ms_F_demandPlace.2.2 lk_F_97 rfl rfl rfl (by decide) (by decide) (fun _ _ _ _ _ hz => by cases hz.1) (fun r _ _ _ _ hz => ?_)
  obtain ⟨z1, z2, z3, z4, z5⟩ := hz
  cases z1
  replace z2 := z2.symm; replace z3 := z3.symm; replace z4 := z4.symm; replace z5 := z5.symm
  subst z2; subst z3; subst z4; subst z5
  refine VW.iload (pc' := 39) d_F_update_37 rfl rfl ?_
  refine VW.cS (pc' := 42) d_F_update_39 rfl ms_F_isNumber lk_F_104 rfl rfl rfl (by decide) (by decide) (sp_F_isNumber) rfl rfl ?_
  refine VW.if_ne (tgt := 52) (pc' := 45) d_F_update_42 rfl rfl (fun c42 => ?_) (fun c42 => ?_)
  case refine_1 => exact absurd c42 (fun w => hv (Or.inr (bIn w)))
  refine VW.iload (pc' := 47) d_F_update_45 rfl rfl ?_
  refine VW.ldc (pc' := 49) (z := -2147483648) d_F_update_47 rfl lk_F_153 (by decide) (by decide) ?_
  refine VW.icmp_ne (tgt := 56) (pc' := 52) d_F_update_49 rfl rfl (fun c49 => ?_) (fun c49 => ?_)
  case refine_2 => exact absurd c49 (fun w => hv (Or.inl w))
  refine VW.iconst (pc' := 57) d_F_update_56 rfl (by decide) ?_
  refine VW.callSX (pc' := 60) d_F_update_57 rfl (sp_F_demandRange0) rfl ms_F_demandRange.1 ms_F_demandRange.2.1 rfl ms_F_demandRange.2.2 lk_F_70 rfl rfl rfl (by decide) (by decide) (fun _ _ _ _ _ hz => ?_) (fun _ _ _ _ _ hz => by cases hz.1)
  obtain ⟨z1, z2, z3, z4, z5⟩ := hz
  cases z1
  replace z2 := z2.symm; replace z3 := z3.symm; replace z4 := z4.symm; replace z5 := z5.symm
  subst z2; subst z3; subst z4; subst z5
  exact Or.inl ⟨rfl, ex_rf⟩
  -- end
theorem update_no3 (hC : ClW K P) (hL : EnL K P I n lq lv mv) (h6 : I 1032 0 ≤ 6) (hi : i < n) (hc : (0 ≤ t ∧ t < I 1032 0) ∧ 0 ≤ c ∧ c < I 1034 t) (c0 : c ≠ 0) (hv : okV v) (h4 : I (tX i) 4 ≠ 0) : Sp m_F_update true ({ frames := 12, cells := 1, slots := 6, locals := 400 } : Room) (ex K P J I (.inr eISE)) K P J I [vR (some 1000), vI (i : Int), vI t, vI y, vI c, vI v] := by
  have spH : Sp m_Engine_hasTransaction false (rmv 1 20) (ex K P J I (.inl (some (vI 1)))) K P J I [vR (some 1064), vI (i : Int)] := by
    have := sp_Engine_hasTransaction (J := J) hC hL (a := (i : Int))
    rw [bI1 (show 0 ≤ (i : Int) ∧ (i : Int) < n by omega)] at this
    exact this
  have spB : Sp m_Schema_hasColumn false (rmv 1 21) (ex K P J I (.inl (some (vI 1)))) K P J I [vR (some 1032), vI t, vI c] := by
    have := sp_Schema_hasColumn (J := J) (I := I) (a := t) (b := c) hC.sc h6
    rw [bI1 hc] at this
    exact this
  have spA := sp_F_active0 (J := J) hC hL hi h4
  refine Sp.ofV (by decide) (Or.inl rfl) rfl ?_
  refine VW.aload_n (pc' := 1) d_F_update_0 rfl rfl ?_
  refine VW.gP (ci := 10) (T := T10) (N := 11) (k := 1) (k' := 1) (pc' := 4) d_F_update_1 rfl lk_F_21 in10 rfl rfl rfl rfl (by first | exact hC.k 0 rfl | exact hC.k 9 rfl | exact hC.k 2 rfl | exact hC.k 3 rfl | exact hx) (by first | exact hC.p 1 rfl | exact hC.p 0 rfl | exact hC.p 9 rfl | rfl) ?_
  refine VW.iload_n (pc' := 5) d_F_update_4 rfl rfl ?_
  refine VW.cV (ci := 0) (T := T0) (N := 8) (pc' := 8) d_F_update_5 rfl mv_Engine_hasTransaction lk_F_157 rfl (by first | exact hC.k 0 rfl | exact hC.k 9 rfl | exact hC.k 2 rfl | exact hC.k 3 rfl | exact hx) rfl rfl rfl (by decide) (by decide) (spH) rfl rfl ?_
  refine VW.if_eq (tgt := 33) (pc' := 11) d_F_update_8 rfl rfl (fun c8 => ?_) (fun c8 => ?_)
  case refine_1 => exact absurd c8 (by decide)
  refine VW.aload_n (pc' := 12) d_F_update_11 rfl rfl ?_
  refine VW.gP (ci := 10) (T := T10) (N := 11) (k := 0) (k' := 0) (pc' := 15) d_F_update_12 rfl lk_F_12 in10 rfl rfl rfl rfl (by first | exact hC.k 0 rfl | exact hC.k 9 rfl | exact hC.k 2 rfl | exact hC.k 3 rfl | exact hx) (by first | exact hC.p 1 rfl | exact hC.p 0 rfl | exact hC.p 9 rfl | rfl) ?_
  refine VW.iload_n (pc' := 16) d_F_update_15 rfl rfl ?_
  refine VW.iload (pc' := 18) d_F_update_16 rfl rfl ?_
  refine VW.cV (ci := 7) (T := T7) (N := 8) (pc' := 21) d_F_update_18 rfl mv_Schema_hasColumn lk_F_93 rfl (by first | exact hC.k 0 rfl | exact hC.k 9 rfl | exact hC.k 2 rfl | exact hC.k 3 rfl | exact hx) rfl rfl rfl (by decide) (by decide) (spB) rfl rfl ?_
  refine VW.if_eq (tgt := 33) (pc' := 24) d_F_update_21 rfl rfl (fun c21 => ?_) (fun c21 => ?_)
  case refine_1 => exact absurd c21 (by decide)
  refine VW.iload (pc' := 26) d_F_update_24 rfl rfl ?_
  refine VW.if_eq (tgt := 33) (pc' := 29) d_F_update_26 rfl rfl (fun c26 => ?_) (fun c26 => ?_)
  case refine_1 => exact absurd c26 (c0)
  refine VW.iconst (pc' := 30) d_F_update_29 rfl (by decide) ?_
  refine VW.goto (pc' := 34) d_F_update_30 rfl ?_
  refine VW.callSX (pc' := 37) d_F_update_34 rfl (sp_F_demandPlace1 (by decide)) rfl ms_F_demandPlace.1 ms_F_demandPlace.2.1 rfl ms_F_demandPlace.2.2 lk_F_97 rfl rfl rfl (by decide) (by decide) (fun _ _ _ _ _ hz => by cases hz.1) (fun r _ _ _ _ hz => ?_)
  obtain ⟨z1, z2, z3, z4, z5⟩ := hz
  cases z1
  replace z2 := z2.symm; replace z3 := z3.symm; replace z4 := z4.symm; replace z5 := z5.symm
  subst z2; subst z3; subst z4; subst z5
  refine VW.iload (pc' := 39) d_F_update_37 rfl rfl ?_
  refine VW.cS (pc' := 42) d_F_update_39 rfl ms_F_isNumber lk_F_104 rfl rfl rfl (by decide) (by decide) (sp_F_isNumber) rfl rfl ?_
  refine VW.if_ne (tgt := 52) (pc' := 45) d_F_update_42 rfl rfl (fun c42 => ?_) (fun c42 => ?_)
  · try have e42 := bIn c42
    refine VW.iconst (pc' := 53) d_F_update_52 rfl (by decide) ?_
    refine VW.goto (pc' := 57) d_F_update_53 rfl ?_
    refine VW.callSX (pc' := 60) d_F_update_57 rfl (sp_F_demandRange1 (by decide)) rfl ms_F_demandRange.1 ms_F_demandRange.2.1 rfl ms_F_demandRange.2.2 lk_F_70 rfl rfl rfl (by decide) (by decide) (fun _ _ _ _ _ hz => by cases hz.1) (fun r _ _ _ _ hz => ?_)
    obtain ⟨z1, z2, z3, z4, z5⟩ := hz
    cases z1
    replace z2 := z2.symm; replace z3 := z3.symm; replace z4 := z4.symm; replace z5 := z5.symm
    subst z2; subst z3; subst z4; subst z5
    refine VW.aload_n (pc' := 61) d_F_update_60 rfl rfl ?_
    refine VW.iload_n (pc' := 62) d_F_update_61 rfl rfl ?_
    refine VW.callVX (ci := 10) (T := T10) (N := 11) (pc' := 65) d_F_update_62 rfl (spA) rfl mv_F_activeTransaction.1 mv_F_activeTransaction.2.1 rfl mv_F_activeTransaction.2.2.1 mv_F_activeTransaction.2.2.2 lk_F_160 rfl (by first | exact hC.k 0 rfl | exact hC.k 9 rfl | exact hC.k 2 rfl | exact hC.k 3 rfl | exact hx) rfl rfl rfl (by decide) (by decide) (fun _ _ _ _ _ hz => ?_) (fun _ _ _ _ _ hz => by cases hz.1)
    obtain ⟨z1, z2, z3, z4, z5⟩ := hz
    cases z1
    replace z2 := z2.symm; replace z3 := z3.symm; replace z4 := z4.symm; replace z5 := z5.symm
    subst z2; subst z3; subst z4; subst z5
    exact Or.inl ⟨rfl, ex_rf⟩
    -- end
  · try have e42 := bIe c42
    refine VW.iload (pc' := 47) d_F_update_45 rfl rfl ?_
    refine VW.ldc (pc' := 49) (z := -2147483648) d_F_update_47 rfl lk_F_153 (by decide) (by decide) ?_
    refine VW.icmp_ne (tgt := 56) (pc' := 52) d_F_update_49 rfl rfl (fun c49 => ?_) (fun c49 => ?_)
    case refine_1 => exact absurd c49 (fun w => w (hv.resolve_right e42))
    refine VW.iconst (pc' := 53) d_F_update_52 rfl (by decide) ?_
    refine VW.goto (pc' := 57) d_F_update_53 rfl ?_
    refine VW.callSX (pc' := 60) d_F_update_57 rfl (sp_F_demandRange1 (by decide)) rfl ms_F_demandRange.1 ms_F_demandRange.2.1 rfl ms_F_demandRange.2.2 lk_F_70 rfl rfl rfl (by decide) (by decide) (fun _ _ _ _ _ hz => by cases hz.1) (fun r _ _ _ _ hz => ?_)
    obtain ⟨z1, z2, z3, z4, z5⟩ := hz
    cases z1
    replace z2 := z2.symm; replace z3 := z3.symm; replace z4 := z4.symm; replace z5 := z5.symm
    subst z2; subst z3; subst z4; subst z5
    refine VW.aload_n (pc' := 61) d_F_update_60 rfl rfl ?_
    refine VW.iload_n (pc' := 62) d_F_update_61 rfl rfl ?_
    refine VW.callVX (ci := 10) (T := T10) (N := 11) (pc' := 65) d_F_update_62 rfl (spA) rfl mv_F_activeTransaction.1 mv_F_activeTransaction.2.1 rfl mv_F_activeTransaction.2.2.1 mv_F_activeTransaction.2.2.2 lk_F_160 rfl (by first | exact hC.k 0 rfl | exact hC.k 9 rfl | exact hC.k 2 rfl | exact hC.k 3 rfl | exact hx) rfl rfl rfl (by decide) (by decide) (fun _ _ _ _ _ hz => ?_) (fun _ _ _ _ _ hz => by cases hz.1)
    obtain ⟨z1, z2, z3, z4, z5⟩ := hz
    cases z1
    replace z2 := z2.symm; replace z3 := z3.symm; replace z4 := z4.symm; replace z5 := z5.symm
    subst z2; subst z3; subst z4; subst z5
    exact Or.inl ⟨rfl, ex_rf⟩
    -- end
theorem abort_no1 (hC : ClW K P) (hL : EnL K P I n lq lv mv) (h : ¬ (0 ≤ a ∧ a < n)) : Sp m_F_abort true ({ frames := 12, cells := 1, slots := 6, locals := 400 } : Room) (ex K P J I (.inr eIOO)) K P J I [vR (some 1000), vI a] := by
  have spT := sp_F_transactionAt0 (J := J) hC hL h
  refine Sp.ofV (by decide) (Or.inl rfl) rfl ?_
  refine VW.aload_n (pc' := 1) d_F_abort_0 rfl rfl ?_
  refine VW.iload_n (pc' := 2) d_F_abort_1 rfl rfl ?_
  refine VW.callVX (ci := 10) (T := T10) (N := 11) (pc' := 5) d_F_abort_2 rfl (spT) rfl mv_F_transactionAt.1 mv_F_transactionAt.2.1 rfl mv_F_transactionAt.2.2.1 mv_F_transactionAt.2.2.2 lk_F_194 rfl (by first | exact hC.k 0 rfl | exact hC.k 9 rfl | exact hC.k 2 rfl | exact hC.k 3 rfl | exact hx) rfl rfl rfl (by decide) (by decide) (fun _ _ _ _ _ hz => ?_) (fun _ _ _ _ _ hz => by cases hz.1)
  obtain ⟨z1, z2, z3, z4, z5⟩ := hz
  cases z1
  replace z2 := z2.symm; replace z3 := z3.symm; replace z4 := z4.symm; replace z5 := z5.symm
  subst z2; subst z3; subst z4; subst z5
  exact Or.inl ⟨rfl, ex_rf⟩
  -- end
theorem abort_no2 (hC : ClW K P) (hL : EnL K P I n lq lv mv) (hi : i < n) (h4 : ¬ (I (tX i) 4 = 0 ∨ I (tX i) 4 = 1)) : Sp m_F_abort true ({ frames := 12, cells := 1, slots := 6, locals := 400 } : Room) (ex K P J I (.inr eISE)) K P J I [vR (some 1000), vI (i : Int)] := by
  have hx := (hL.tx hi).k
  have spT : Sp m_F_transactionAt true rmE0 (ex K P J I (.inl (some (vR (some (tX i)))))) K P J I [vR (some 1000), vI (i : Int)] := by
    have := sp_F_transactionAt1 (J := J) hC hL (a := (i : Int)) ⟨by omega, by omega⟩
    rw [show ((i : Int)).toNat = i by omega] at this
    exact this
  have spO : Sp m_Transaction_isOpen false (rmv 0 0) (ex K P J I (.inl (some (vI 0)))) K P J I [vR (some (tX i))] := by
    have := sp_Transaction_isOpen (J := J) (I := I) (hL.tx hi).1
    rw [bI0 h4] at this
    exact this
  refine Sp.ofV (by decide) (Or.inl rfl) rfl ?_
  refine VW.aload_n (pc' := 1) d_F_abort_0 rfl rfl ?_
  refine VW.iload_n (pc' := 2) d_F_abort_1 rfl rfl ?_
  refine VW.callVX (ci := 10) (T := T10) (N := 11) (pc' := 5) d_F_abort_2 rfl (spT) rfl mv_F_transactionAt.1 mv_F_transactionAt.2.1 rfl mv_F_transactionAt.2.2.1 mv_F_transactionAt.2.2.2 lk_F_194 rfl (by first | exact hC.k 0 rfl | exact hC.k 9 rfl | exact hC.k 2 rfl | exact hC.k 3 rfl | exact hx) rfl rfl rfl (by decide) (by decide) (fun _ _ _ _ _ hz => by cases hz.1) (fun r _ _ _ _ hz => ?_)
  obtain ⟨z1, z2, z3, z4, z5⟩ := hz
  cases z1
  replace z2 := z2.symm; replace z3 := z3.symm; replace z4 := z4.symm; replace z5 := z5.symm
  subst z2; subst z3; subst z4; subst z5
  refine VW.astore_n (pc' := 6) d_F_abort_5 rfl rfl ?_
  refine VW.aload_n (pc' := 7) d_F_abort_6 rfl rfl ?_
  refine VW.cV (ci := 8) (T := T8) (N := 19) (pc' := 10) d_F_abort_7 rfl mv_Transaction_isOpen lk_F_197 rfl (by first | exact hC.k 0 rfl | exact hC.k 9 rfl | exact hC.k 2 rfl | exact hC.k 3 rfl | exact hx) rfl rfl rfl (by decide) (by decide) (spO) rfl rfl ?_
  refine VW.callSX (pc' := 13) d_F_abort_10 rfl (sp_F_demandState0) rfl ms_F_demandState.1 ms_F_demandState.2.1 rfl ms_F_demandState.2.2 lk_F_82 rfl rfl rfl (by decide) (by decide) (fun _ _ _ _ _ hz => ?_) (fun _ _ _ _ _ hz => by cases hz.1)
  obtain ⟨z1, z2, z3, z4, z5⟩ := hz
  cases z1
  replace z2 := z2.symm; replace z3 := z3.symm; replace z4 := z4.symm; replace z5 := z5.symm
  subst z2; subst z3; subst z4; subst z5
  exact Or.inl ⟨rfl, ex_rf⟩
  -- end
theorem commit_no1 (hC : ClW K P) (hL : EnL K P I n lq lv mv) (h : ¬ (0 ≤ a ∧ a < n)) : Sp m_F_commit true ({ frames := 12, cells := 1, slots := 6, locals := 400 } : Room) (ex K P J I (.inr eIOO)) K P J I [vR (some 1000), vI a] := by
  have spH : Sp m_Engine_hasTransaction false (rmv 1 20) (ex K P J I (.inl (some (vI 0)))) K P J I [vR (some 1064), vI a] := by
    have := sp_Engine_hasTransaction (J := J) hC hL (a := a)
    rw [bI0 h] at this
    exact this
  refine Sp.ofV (by decide) (Or.inl rfl) rfl ?_
  refine VW.aload_n (pc' := 1) d_F_commit_0 rfl rfl ?_
  refine VW.gP (ci := 10) (T := T10) (N := 11) (k := 1) (k' := 1) (pc' := 4) d_F_commit_1 rfl lk_F_21 in10 rfl rfl rfl rfl (by first | exact hC.k 0 rfl | exact hC.k 9 rfl | exact hC.k 2 rfl | exact hC.k 3 rfl | exact hx) (by first | exact hC.p 1 rfl | exact hC.p 0 rfl | exact hC.p 9 rfl | rfl) ?_
  refine VW.iload_n (pc' := 5) d_F_commit_4 rfl rfl ?_
  refine VW.cV (ci := 0) (T := T0) (N := 8) (pc' := 8) d_F_commit_5 rfl mv_Engine_hasTransaction lk_F_157 rfl (by first | exact hC.k 0 rfl | exact hC.k 9 rfl | exact hC.k 2 rfl | exact hC.k 3 rfl | exact hx) rfl rfl rfl (by decide) (by decide) (spH) rfl rfl ?_
  refine VW.callSX (pc' := 11) d_F_commit_8 rfl (sp_F_demandPlace0) rfl ms_F_demandPlace.1 ms_F_demandPlace.2.1 rfl ms_F_demandPlace.2.2 lk_F_97 rfl rfl rfl (by decide) (by decide) (fun _ _ _ _ _ hz => ?_) (fun _ _ _ _ _ hz => by cases hz.1)
  obtain ⟨z1, z2, z3, z4, z5⟩ := hz
  cases z1
  replace z2 := z2.symm; replace z3 := z3.symm; replace z4 := z4.symm; replace z5 := z5.symm
  subst z2; subst z3; subst z4; subst z5
  exact Or.inl ⟨rfl, ex_rf⟩
  -- end
theorem commit_no2 (hC : ClW K P) (hL : EnL K P I n lq lv mv) (hi : i < n) (h4 : I (tX i) 4 ≠ 0) : Sp m_F_commit true ({ frames := 12, cells := 1, slots := 6, locals := 400 } : Room) (ex K P J I (.inr eISE)) K P J I [vR (some 1000), vI (i : Int)] := by
  have spH : Sp m_Engine_hasTransaction false (rmv 1 20) (ex K P J I (.inl (some (vI 1)))) K P J I [vR (some 1064), vI (i : Int)] := by
    have := sp_Engine_hasTransaction (J := J) hC hL (a := (i : Int))
    rw [bI1 (show 0 ≤ (i : Int) ∧ (i : Int) < n by omega)] at this
    exact this
  have spA := sp_F_active0 (J := J) hC hL hi h4
  refine Sp.ofV (by decide) (Or.inl rfl) rfl ?_
  refine VW.aload_n (pc' := 1) d_F_commit_0 rfl rfl ?_
  refine VW.gP (ci := 10) (T := T10) (N := 11) (k := 1) (k' := 1) (pc' := 4) d_F_commit_1 rfl lk_F_21 in10 rfl rfl rfl rfl (by first | exact hC.k 0 rfl | exact hC.k 9 rfl | exact hC.k 2 rfl | exact hC.k 3 rfl | exact hx) (by first | exact hC.p 1 rfl | exact hC.p 0 rfl | exact hC.p 9 rfl | rfl) ?_
  refine VW.iload_n (pc' := 5) d_F_commit_4 rfl rfl ?_
  refine VW.cV (ci := 0) (T := T0) (N := 8) (pc' := 8) d_F_commit_5 rfl mv_Engine_hasTransaction lk_F_157 rfl (by first | exact hC.k 0 rfl | exact hC.k 9 rfl | exact hC.k 2 rfl | exact hC.k 3 rfl | exact hx) rfl rfl rfl (by decide) (by decide) (spH) rfl rfl ?_
  refine VW.callSX (pc' := 11) d_F_commit_8 rfl (sp_F_demandPlace1 (by decide)) rfl ms_F_demandPlace.1 ms_F_demandPlace.2.1 rfl ms_F_demandPlace.2.2 lk_F_97 rfl rfl rfl (by decide) (by decide) (fun _ _ _ _ _ hz => by cases hz.1) (fun r _ _ _ _ hz => ?_)
  obtain ⟨z1, z2, z3, z4, z5⟩ := hz
  cases z1
  replace z2 := z2.symm; replace z3 := z3.symm; replace z4 := z4.symm; replace z5 := z5.symm
  subst z2; subst z3; subst z4; subst z5
  refine VW.aload_n (pc' := 12) d_F_commit_11 rfl rfl ?_
  refine VW.gP (ci := 10) (T := T10) (N := 11) (k := 1) (k' := 1) (pc' := 15) d_F_commit_12 rfl lk_F_21 in10 rfl rfl rfl rfl (by first | exact hC.k 0 rfl | exact hC.k 9 rfl | exact hC.k 2 rfl | exact hC.k 3 rfl | exact hx) (by first | exact hC.p 1 rfl | exact hC.p 0 rfl | exact hC.p 9 rfl | rfl) ?_
  refine VW.aload_n (pc' := 16) d_F_commit_15 rfl rfl ?_
  refine VW.iload_n (pc' := 17) d_F_commit_16 rfl rfl ?_
  refine VW.callVX (ci := 10) (T := T10) (N := 11) (pc' := 20) d_F_commit_17 rfl (spA) rfl mv_F_activeTransaction.1 mv_F_activeTransaction.2.1 rfl mv_F_activeTransaction.2.2.1 mv_F_activeTransaction.2.2.2 lk_F_160 rfl (by first | exact hC.k 0 rfl | exact hC.k 9 rfl | exact hC.k 2 rfl | exact hC.k 3 rfl | exact hx) rfl rfl rfl (by decide) (by decide) (fun _ _ _ _ _ hz => ?_) (fun _ _ _ _ _ hz => by cases hz.1)
  obtain ⟨z1, z2, z3, z4, z5⟩ := hz
  cases z1
  replace z2 := z2.symm; replace z3 := z3.symm; replace z4 := z4.symm; replace z5 := z5.symm
  subst z2; subst z3; subst z4; subst z5
  exact Or.inl ⟨rfl, ex_rf⟩
  -- end
theorem state_run (hC : ClW K P) (hL : EnL K P I n lq lv mv) (hi : i < n) : Sp m_F_state true ({ frames := 12, cells := 0, slots := 0, locals := 400 } : Room) (ex K P J I (.inl (some (vI (I (tX i) 4))))) K P J I [vR (some 1000), vI (i : Int)] := by
  have hx := (hL.tx hi).k
  have spT : Sp m_F_transactionAt true rmE0 (ex K P J I (.inl (some (vR (some (tX i)))))) K P J I [vR (some 1000), vI (i : Int)] := by
    have := sp_F_transactionAt1 (J := J) hC hL (a := (i : Int)) ⟨by omega, by omega⟩
    rw [show ((i : Int)).toNat = i by omega] at this
    exact this
  refine Sp.ofV (by decide) (Or.inl rfl) rfl ?_
  refine VW.aload_n (pc' := 1) d_F_state_0 rfl rfl ?_
  refine VW.iload_n (pc' := 2) d_F_state_1 rfl rfl ?_
  refine VW.callVX (ci := 10) (T := T10) (N := 11) (pc' := 5) d_F_state_2 rfl (spT) rfl mv_F_transactionAt.1 mv_F_transactionAt.2.1 rfl mv_F_transactionAt.2.2.1 mv_F_transactionAt.2.2.2 lk_F_194 rfl (by first | exact hC.k 0 rfl | exact hC.k 9 rfl | exact hC.k 2 rfl | exact hC.k 3 rfl | exact hx) rfl rfl rfl (by decide) (by decide) (fun _ _ _ _ _ hz => by cases hz.1) (fun r _ _ _ _ hz => ?_)
  obtain ⟨z1, z2, z3, z4, z5⟩ := hz
  cases z1
  replace z2 := z2.symm; replace z3 := z3.symm; replace z4 := z4.symm; replace z5 := z5.symm
  subst z2; subst z3; subst z4; subst z5
  refine VW.gI (ci := 8) (T := T8) (N := 19) (k := 4) (k' := 4) (pc' := 8) d_F_state_5 rfl lk_F_203 in8 rfl rfl rfl rfl (by first | exact hC.k 0 rfl | exact hC.k 9 rfl | exact hC.k 2 rfl | exact hC.k 3 rfl | exact hx) (by first | exact hC.p 1 rfl | exact hC.p 0 rfl | exact hC.p 9 rfl | rfl) ?_
  exact VW.iret d_F_state_8 rfl rfl (by decide) (by decide) ex_rf
theorem state_no1 (hC : ClW K P) (hL : EnL K P I n lq lv mv) (h : ¬ (0 ≤ a ∧ a < n)) : Sp m_F_state true ({ frames := 12, cells := 1, slots := 6, locals := 400 } : Room) (ex K P J I (.inr eIOO)) K P J I [vR (some 1000), vI a] := by
  have spT := sp_F_transactionAt0 (J := J) hC hL h
  refine Sp.ofV (by decide) (Or.inl rfl) rfl ?_
  refine VW.aload_n (pc' := 1) d_F_state_0 rfl rfl ?_
  refine VW.iload_n (pc' := 2) d_F_state_1 rfl rfl ?_
  refine VW.callVX (ci := 10) (T := T10) (N := 11) (pc' := 5) d_F_state_2 rfl (spT) rfl mv_F_transactionAt.1 mv_F_transactionAt.2.1 rfl mv_F_transactionAt.2.2.1 mv_F_transactionAt.2.2.2 lk_F_194 rfl (by first | exact hC.k 0 rfl | exact hC.k 9 rfl | exact hC.k 2 rfl | exact hC.k 3 rfl | exact hx) rfl rfl rfl (by decide) (by decide) (fun _ _ _ _ _ hz => ?_) (fun _ _ _ _ _ hz => by cases hz.1)
  obtain ⟨z1, z2, z3, z4, z5⟩ := hz
  cases z1
  replace z2 := z2.symm; replace z3 := z3.symm; replace z4 := z4.symm; replace z5 := z5.symm
  subst z2; subst z3; subst z4; subst z5
  exact Or.inl ⟨rfl, ex_rf⟩
  -- end
theorem outcome_run (hC : ClW K P) (hL : EnL K P I n lq lv mv) (hi : i < n) : Sp m_F_outcome true ({ frames := 12, cells := 0, slots := 0, locals := 400 } : Room) (ex K P J I (.inl (some (vI (I (tX i) 5))))) K P J I [vR (some 1000), vI (i : Int)] := by
  have hx := (hL.tx hi).k
  have spT : Sp m_F_transactionAt true rmE0 (ex K P J I (.inl (some (vR (some (tX i)))))) K P J I [vR (some 1000), vI (i : Int)] := by
    have := sp_F_transactionAt1 (J := J) hC hL (a := (i : Int)) ⟨by omega, by omega⟩
    rw [show ((i : Int)).toNat = i by omega] at this
    exact this
  refine Sp.ofV (by decide) (Or.inl rfl) rfl ?_
  refine VW.aload_n (pc' := 1) d_F_outcome_0 rfl rfl ?_
  refine VW.iload_n (pc' := 2) d_F_outcome_1 rfl rfl ?_
  refine VW.callVX (ci := 10) (T := T10) (N := 11) (pc' := 5) d_F_outcome_2 rfl (spT) rfl mv_F_transactionAt.1 mv_F_transactionAt.2.1 rfl mv_F_transactionAt.2.2.1 mv_F_transactionAt.2.2.2 lk_F_194 rfl (by first | exact hC.k 0 rfl | exact hC.k 9 rfl | exact hC.k 2 rfl | exact hC.k 3 rfl | exact hx) rfl rfl rfl (by decide) (by decide) (fun _ _ _ _ _ hz => by cases hz.1) (fun r _ _ _ _ hz => ?_)
  obtain ⟨z1, z2, z3, z4, z5⟩ := hz
  cases z1
  replace z2 := z2.symm; replace z3 := z3.symm; replace z4 := z4.symm; replace z5 := z5.symm
  subst z2; subst z3; subst z4; subst z5
  refine VW.gI (ci := 8) (T := T8) (N := 19) (k := 5) (k' := 5) (pc' := 8) d_F_outcome_5 rfl lk_F_177 in8 rfl rfl rfl rfl (by first | exact hC.k 0 rfl | exact hC.k 9 rfl | exact hC.k 2 rfl | exact hC.k 3 rfl | exact hx) (by first | exact hC.p 1 rfl | exact hC.p 0 rfl | exact hC.p 9 rfl | rfl) ?_
  exact VW.iret d_F_outcome_8 rfl rfl (by decide) (by decide) ex_rf
theorem outcome_no1 (hC : ClW K P) (hL : EnL K P I n lq lv mv) (h : ¬ (0 ≤ a ∧ a < n)) : Sp m_F_outcome true ({ frames := 12, cells := 1, slots := 6, locals := 400 } : Room) (ex K P J I (.inr eIOO)) K P J I [vR (some 1000), vI a] := by
  have spT := sp_F_transactionAt0 (J := J) hC hL h
  refine Sp.ofV (by decide) (Or.inl rfl) rfl ?_
  refine VW.aload_n (pc' := 1) d_F_outcome_0 rfl rfl ?_
  refine VW.iload_n (pc' := 2) d_F_outcome_1 rfl rfl ?_
  refine VW.callVX (ci := 10) (T := T10) (N := 11) (pc' := 5) d_F_outcome_2 rfl (spT) rfl mv_F_transactionAt.1 mv_F_transactionAt.2.1 rfl mv_F_transactionAt.2.2.1 mv_F_transactionAt.2.2.2 lk_F_194 rfl (by first | exact hC.k 0 rfl | exact hC.k 9 rfl | exact hC.k 2 rfl | exact hC.k 3 rfl | exact hx) rfl rfl rfl (by decide) (by decide) (fun _ _ _ _ _ hz => ?_) (fun _ _ _ _ _ hz => by cases hz.1)
  obtain ⟨z1, z2, z3, z4, z5⟩ := hz
  cases z1
  replace z2 := z2.symm; replace z3 := z3.symm; replace z4 := z4.symm; replace z5 := z5.symm
  subst z2; subst z3; subst z4; subst z5
  exact Or.inl ⟨rfl, ex_rf⟩
  -- end
theorem waitsFor_run (hC : ClW K P) (hL : EnL K P I n lq lv mv) (hi : i < n) : Sp m_F_waitsFor true ({ frames := 12, cells := 0, slots := 0, locals := 400 } : Room) (ex K P J I (.inl (some (vI (I (tX i) 6))))) K P J I [vR (some 1000), vI (i : Int)] := by
  have hx := (hL.tx hi).k
  have spT : Sp m_F_transactionAt true rmE0 (ex K P J I (.inl (some (vR (some (tX i)))))) K P J I [vR (some 1000), vI (i : Int)] := by
    have := sp_F_transactionAt1 (J := J) hC hL (a := (i : Int)) ⟨by omega, by omega⟩
    rw [show ((i : Int)).toNat = i by omega] at this
    exact this
  refine Sp.ofV (by decide) (Or.inl rfl) rfl ?_
  refine VW.aload_n (pc' := 1) d_F_waitsFor_0 rfl rfl ?_
  refine VW.iload_n (pc' := 2) d_F_waitsFor_1 rfl rfl ?_
  refine VW.callVX (ci := 10) (T := T10) (N := 11) (pc' := 5) d_F_waitsFor_2 rfl (spT) rfl mv_F_transactionAt.1 mv_F_transactionAt.2.1 rfl mv_F_transactionAt.2.2.1 mv_F_transactionAt.2.2.2 lk_F_194 rfl (by first | exact hC.k 0 rfl | exact hC.k 9 rfl | exact hC.k 2 rfl | exact hC.k 3 rfl | exact hx) rfl rfl rfl (by decide) (by decide) (fun _ _ _ _ _ hz => by cases hz.1) (fun r _ _ _ _ hz => ?_)
  obtain ⟨z1, z2, z3, z4, z5⟩ := hz
  cases z1
  replace z2 := z2.symm; replace z3 := z3.symm; replace z4 := z4.symm; replace z5 := z5.symm
  subst z2; subst z3; subst z4; subst z5
  refine VW.gI (ci := 8) (T := T8) (N := 19) (k := 6) (k' := 6) (pc' := 8) d_F_waitsFor_5 rfl lk_F_206 in8 rfl rfl rfl rfl (by first | exact hC.k 0 rfl | exact hC.k 9 rfl | exact hC.k 2 rfl | exact hC.k 3 rfl | exact hx) (by first | exact hC.p 1 rfl | exact hC.p 0 rfl | exact hC.p 9 rfl | rfl) ?_
  exact VW.iret d_F_waitsFor_8 rfl rfl (by decide) (by decide) ex_rf
theorem waitsFor_no1 (hC : ClW K P) (hL : EnL K P I n lq lv mv) (h : ¬ (0 ≤ a ∧ a < n)) : Sp m_F_waitsFor true ({ frames := 12, cells := 1, slots := 6, locals := 400 } : Room) (ex K P J I (.inr eIOO)) K P J I [vR (some 1000), vI a] := by
  have spT := sp_F_transactionAt0 (J := J) hC hL h
  refine Sp.ofV (by decide) (Or.inl rfl) rfl ?_
  refine VW.aload_n (pc' := 1) d_F_waitsFor_0 rfl rfl ?_
  refine VW.iload_n (pc' := 2) d_F_waitsFor_1 rfl rfl ?_
  refine VW.callVX (ci := 10) (T := T10) (N := 11) (pc' := 5) d_F_waitsFor_2 rfl (spT) rfl mv_F_transactionAt.1 mv_F_transactionAt.2.1 rfl mv_F_transactionAt.2.2.1 mv_F_transactionAt.2.2.2 lk_F_194 rfl (by first | exact hC.k 0 rfl | exact hC.k 9 rfl | exact hC.k 2 rfl | exact hC.k 3 rfl | exact hx) rfl rfl rfl (by decide) (by decide) (fun _ _ _ _ _ hz => ?_) (fun _ _ _ _ _ hz => by cases hz.1)
  obtain ⟨z1, z2, z3, z4, z5⟩ := hz
  cases z1
  replace z2 := z2.symm; replace z3 := z3.symm; replace z4 := z4.symm; replace z5 := z5.symm
  subst z2; subst z3; subst z4; subst z5
  exact Or.inl ⟨rfl, ex_rf⟩
  -- end
end
