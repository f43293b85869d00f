/-! what the calls throw -/
section
variable {K : KT} {P : PT} {J I : IT} {n lq i : Nat} {lv mv : Nat → Nat} {a t y c v x : Int}
def rmG1 : Room := { frames := 10, cells := 1, slots := 6, locals := 300 }
theorem sp_F_active0 (hC : ClW K P) (hL : EnL K P I n lq lv mv) (hi : i < n) (h4 : I (tX i) 4 ≠ 0) : Sp m_F_activeTransaction true rmG1 (ex K P J I (.inr eISE)) K P J I [vR (some 1000), vI (i : Int)] := by
  have hx := (hL.tx hi).k
  have spT : Sp m_F_transactionAt true rmE0 (ex K P J I (.inl (some (vR (some (tX i)))))) K P J I [vR (some 1000), vI (i : Int)] := by
    have := sp_F_transactionAt1 (J := J) hC hL (a := (i : Int)) ⟨by omega, by omega⟩
    rw [show ((i : Int)).toNat = i by omega] at this
    exact this
  refine Sp.ofV (by decide) (Or.inl rfl) rfl ?_
  refine VW.aload_n (pc' := 1) d_F_activeTransaction_0 rfl rfl ?_
  refine VW.iload_n (pc' := 2) d_F_activeTransaction_1 rfl rfl ?_
  refine VW.callVX (ci := 10) (T := T10) (N := 11) (pc' := 5) d_F_activeTransaction_2 rfl (spT) rfl mv_F_transactionAt.1 mv_F_transactionAt.2.1 rfl mv_F_transactionAt.2.2.1 mv_F_transactionAt.2.2.2 lk_F_194 rfl (by first | exact hC.k 0 rfl | exact hC.k 9 rfl | exact hC.k 2 rfl | exact hC.k 3 rfl | exact hx) rfl rfl rfl (by decide) (by decide) (fun _ _ _ _ _ hz => by cases hz.1) (fun r _ _ _ _ hz => ?_)
  obtain ⟨z1, z2, z3, z4, z5⟩ := hz
  cases z1
  replace z2 := z2.symm; replace z3 := z3.symm; replace z4 := z4.symm; replace z5 := z5.symm
  subst z2; subst z3; subst z4; subst z5
  refine VW.astore_n (pc' := 6) d_F_activeTransaction_5 rfl rfl ?_
  refine VW.aload_n (pc' := 7) d_F_activeTransaction_6 rfl rfl ?_
  refine VW.gI (ci := 8) (T := T8) (N := 19) (k := 4) (k' := 4) (pc' := 10) d_F_activeTransaction_7 rfl lk_F_203 in8 rfl rfl rfl rfl (by first | exact hC.k 0 rfl | exact hC.k 9 rfl | exact hC.k 2 rfl | exact hC.k 3 rfl | exact hx) (by first | exact hC.p 1 rfl | exact hC.p 0 rfl | exact hC.p 9 rfl | rfl) ?_
  refine VW.if_ne (tgt := 17) (pc' := 13) d_F_activeTransaction_10 rfl rfl (fun c10 => ?_) (fun c10 => ?_)
  case refine_2 => exact absurd c10 (h4)
  refine VW.iconst (pc' := 18) d_F_activeTransaction_17 rfl (by decide) ?_
  refine VW.callSX (pc' := 21) d_F_activeTransaction_18 rfl (sp_F_demandState0) rfl ms_F_demandState.1 ms_F_demandState.2.1 rfl ms_F_demandState.2.2 lk_F_82 rfl rfl rfl (by decide) (by decide) (fun _ _ _ _ _ hz => ?_) (fun _ _ _ _ _ hz => by cases hz.1)
  obtain ⟨z1, z2, z3, z4, z5⟩ := hz
  cases z1
  replace z2 := z2.symm; replace z3 := z3.symm; replace z4 := z4.symm; replace z5 := z5.symm
  subst z2; subst z3; subst z4; subst z5
  exact Or.inl ⟨rfl, ex_rf⟩
  -- end
theorem delete_no1 (hC : ClW K P) (hL : EnL K P I n lq lv mv) (h : ¬ ((0 ≤ a ∧ a < n) ∧ 0 ≤ t ∧ t < I 1032 0)) : Sp m_F_delete true ({ frames := 12, cells := 1, slots := 6, locals := 400 } : Room) (ex K P J I (.inr eIOO)) K P J I [vR (some 1000), vI a, vI t, vI y] := by
  have spH := sp_Engine_hasTransaction (J := J) hC hL (a := a)
  have spB := sp_Schema_hasTable (J := J) (I := I) (a := t) hC.sc
  refine Sp.ofV (by decide) (Or.inl rfl) rfl ?_
  refine VW.aload_n (pc' := 1) d_F_delete_0 rfl rfl ?_
  refine VW.gP (ci := 10) (T := T10) (N := 11) (k := 1) (k' := 1) (pc' := 4) d_F_delete_1 rfl lk_F_21 in10 rfl rfl rfl rfl (by first | exact hC.k 0 rfl | exact hC.k 9 rfl | exact hC.k 2 rfl | exact hC.k 3 rfl | exact hx) (by first | exact hC.p 1 rfl | exact hC.p 0 rfl | exact hC.p 9 rfl | rfl) ?_
  refine VW.iload_n (pc' := 5) d_F_delete_4 rfl rfl ?_
  refine VW.cV (ci := 0) (T := T0) (N := 8) (pc' := 8) d_F_delete_5 rfl mv_Engine_hasTransaction lk_F_157 rfl (by first | exact hC.k 0 rfl | exact hC.k 9 rfl | exact hC.k 2 rfl | exact hC.k 3 rfl | exact hx) rfl rfl rfl (by decide) (by decide) (spH) rfl rfl ?_
  refine VW.if_eq (tgt := 26) (pc' := 11) d_F_delete_8 rfl rfl (fun c8 => ?_) (fun c8 => ?_)
  · try have e8 := bIe c8
    refine VW.iconst (pc' := 27) d_F_delete_26 rfl (by decide) ?_
    refine VW.callSX (pc' := 30) d_F_delete_27 rfl (sp_F_demandPlace0) rfl ms_F_demandPlace.1 ms_F_demandPlace.2.1 rfl ms_F_demandPlace.2.2 lk_F_97 rfl rfl rfl (by decide) (by decide) (fun _ _ _ _ _ hz => ?_) (fun _ _ _ _ _ hz => by cases hz.1)
    obtain ⟨z1, z2, z3, z4, z5⟩ := hz
    cases z1
    replace z2 := z2.symm; replace z3 := z3.symm; replace z4 := z4.symm; replace z5 := z5.symm
    subst z2; subst z3; subst z4; subst z5
    exact Or.inl ⟨rfl, ex_rf⟩
    -- end
  · try have e8 := bIn c8
    refine VW.aload_n (pc' := 12) d_F_delete_11 rfl rfl ?_
    refine VW.gP (ci := 10) (T := T10) (N := 11) (k := 0) (k' := 0) (pc' := 15) d_F_delete_12 rfl lk_F_12 in10 rfl rfl rfl rfl (by first | exact hC.k 0 rfl | exact hC.k 9 rfl | exact hC.k 2 rfl | exact hC.k 3 rfl | exact hx) (by first | exact hC.p 1 rfl | exact hC.p 0 rfl | exact hC.p 9 rfl | rfl) ?_
    refine VW.iload_n (pc' := 16) d_F_delete_15 rfl rfl ?_
    refine VW.cV (ci := 7) (T := T7) (N := 8) (pc' := 19) d_F_delete_16 rfl mv_Schema_hasTable lk_F_123 rfl (by first | exact hC.k 0 rfl | exact hC.k 9 rfl | exact hC.k 2 rfl | exact hC.k 3 rfl | exact hx) rfl rfl rfl (by decide) (by decide) (spB) rfl rfl ?_
    refine VW.if_eq (tgt := 26) (pc' := 22) d_F_delete_19 rfl rfl (fun c19 => ?_) (fun c19 => ?_)
    · try have e19 := bIe c19
      refine VW.iconst (pc' := 27) d_F_delete_26 rfl (by decide) ?_
      refine VW.callSX (pc' := 30) d_F_delete_27 rfl (sp_F_demandPlace0) rfl ms_F_demandPlace.1 ms_F_demandPlace.2.1 rfl ms_F_demandPlace.2.2 lk_F_97 rfl rfl rfl (by decide) (by decide) (fun _ _ _ _ _ hz => ?_) (fun _ _ _ _ _ hz => by cases hz.1)
      obtain ⟨z1, z2, z3, z4, z5⟩ := hz
      cases z1
      replace z2 := z2.symm; replace z3 := z3.symm; replace z4 := z4.symm; replace z5 := z5.symm
      subst z2; subst z3; subst z4; subst z5
      exact Or.inl ⟨rfl, ex_rf⟩
      -- end
    · try have e19 := bIn c19
      refine VW.nrm ?_
      exact absurd ⟨e8, e19⟩ h
theorem delete_no2 (hC : ClW K P) (hL : EnL K P I n lq lv mv) (hi : i < n) (ht : 0 ≤ t ∧ t < I 1032 0) (h4 : I (tX i) 4 ≠ 0) : Sp m_F_delete true ({ frames := 12, cells := 1, slots := 6, locals := 400 } : Room) (ex K P J I (.inr eISE)) K P J I [vR (some 1000), vI (i : Int), vI t, vI y] := by
  have spH : Sp m_Engine_hasTransaction false (rmv 1 20) (ex K P J I (.inl (some (vI 1)))) K P J I [vR (some 1064), vI (i : Int)] := by
    have := sp_Engine_hasTransaction (J := J) hC hL (a := (i : Int))
    rw [bI1 (show 0 ≤ (i : Int) ∧ (i : Int) < n by omega)] at this
    exact this
  have spB : Sp m_Schema_hasTable false (rmv 0 0) (ex K P J I (.inl (some (vI 1)))) K P J I [vR (some 1032), vI t] := by
    have := sp_Schema_hasTable (J := J) (I := I) (a := t) hC.sc
    rw [bI1 ht] at this
    exact this
  have spA := sp_F_active0 (J := J) hC hL hi h4
  refine Sp.ofV (by decide) (Or.inl rfl) rfl ?_
  refine VW.aload_n (pc' := 1) d_F_delete_0 rfl rfl ?_
  refine VW.gP (ci := 10) (T := T10) (N := 11) (k := 1) (k' := 1) (pc' := 4) d_F_delete_1 rfl lk_F_21 in10 rfl rfl rfl rfl (by first | exact hC.k 0 rfl | exact hC.k 9 rfl | exact hC.k 2 rfl | exact hC.k 3 rfl | exact hx) (by first | exact hC.p 1 rfl | exact hC.p 0 rfl | exact hC.p 9 rfl | rfl) ?_
  refine VW.iload_n (pc' := 5) d_F_delete_4 rfl rfl ?_
  refine VW.cV (ci := 0) (T := T0) (N := 8) (pc' := 8) d_F_delete_5 rfl mv_Engine_hasTransaction lk_F_157 rfl (by first | exact hC.k 0 rfl | exact hC.k 9 rfl | exact hC.k 2 rfl | exact hC.k 3 rfl | exact hx) rfl rfl rfl (by decide) (by decide) (spH) rfl rfl ?_
  refine VW.if_eq (tgt := 26) (pc' := 11) d_F_delete_8 rfl rfl (fun c8 => ?_) (fun c8 => ?_)
  case refine_1 => exact absurd c8 (by decide)
  refine VW.aload_n (pc' := 12) d_F_delete_11 rfl rfl ?_
  refine VW.gP (ci := 10) (T := T10) (N := 11) (k := 0) (k' := 0) (pc' := 15) d_F_delete_12 rfl lk_F_12 in10 rfl rfl rfl rfl (by first | exact hC.k 0 rfl | exact hC.k 9 rfl | exact hC.k 2 rfl | exact hC.k 3 rfl | exact hx) (by first | exact hC.p 1 rfl | exact hC.p 0 rfl | exact hC.p 9 rfl | rfl) ?_
  refine VW.iload_n (pc' := 16) d_F_delete_15 rfl rfl ?_
  refine VW.cV (ci := 7) (T := T7) (N := 8) (pc' := 19) d_F_delete_16 rfl mv_Schema_hasTable lk_F_123 rfl (by first | exact hC.k 0 rfl | exact hC.k 9 rfl | exact hC.k 2 rfl | exact hC.k 3 rfl | exact hx) rfl rfl rfl (by decide) (by decide) (spB) rfl rfl ?_
  refine VW.if_eq (tgt := 26) (pc' := 22) d_F_delete_19 rfl rfl (fun c19 => ?_) (fun c19 => ?_)
  case refine_1 => exact absurd c19 (by decide)
  refine VW.iconst (pc' := 23) d_F_delete_22 rfl (by decide) ?_
  refine VW.goto (pc' := 27) d_F_delete_23 rfl ?_
  refine VW.callSX (pc' := 30) d_F_delete_27 rfl (sp_F_demandPlace1 (by decide)) rfl ms_F_demandPlace.1 ms_F_demandPlace.2.1 rfl ms_F_demandPlace.2.2 lk_F_97 rfl rfl rfl (by decide) (by decide) (fun _ _ _ _ _ hz => by cases hz.1) (fun r _ _ _ _ hz => ?_)
  obtain ⟨z1, z2, z3, z4, z5⟩ := hz
  cases z1
  replace z2 := z2.symm; replace z3 := z3.symm; replace z4 := z4.symm; replace z5 := z5.symm
  subst z2; subst z3; subst z4; subst z5
  refine VW.aload_n (pc' := 31) d_F_delete_30 rfl rfl ?_
  refine VW.iload_n (pc' := 32) d_F_delete_31 rfl rfl ?_
  refine VW.callVX (ci := 10) (T := T10) (N := 11) (pc' := 35) d_F_delete_32 rfl (spA) rfl mv_F_activeTransaction.1 mv_F_activeTransaction.2.1 rfl mv_F_activeTransaction.2.2.1 mv_F_activeTransaction.2.2.2 lk_F_160 rfl (by first | exact hC.k 0 rfl | exact hC.k 9 rfl | exact hC.k 2 rfl | exact hC.k 3 rfl | exact hx) rfl rfl rfl (by decide) (by decide) (fun _ _ _ _ _ hz => ?_) (fun _ _ _ _ _ hz => by cases hz.1)
  obtain ⟨z1, z2, z3, z4, z5⟩ := hz
  cases z1
  replace z2 := z2.symm; replace z3 := z3.symm; replace z4 := z4.symm; replace z5 := z5.symm
  subst z2; subst z3; subst z4; subst z5
  exact Or.inl ⟨rfl, ex_rf⟩
  -- end
theorem insert_no1 (hC : ClW K P) (hL : EnL K P I n lq lv mv) (h : ¬ ((0 ≤ a ∧ a < n) ∧ 0 ≤ t ∧ t < I 1032 0)) : Sp m_F_insert true ({ frames := 12, cells := 1, slots := 6, locals := 400 } : Room) (ex K P J I (.inr eIOO)) K P J I [vR (some 1000), vI a, vI t] := by
  have spH := sp_Engine_hasTransaction (J := J) hC hL (a := a)
  have spB := sp_Schema_hasTable (J := J) (I := I) (a := t) hC.sc
  refine Sp.ofV (by decide) (Or.inl rfl) rfl ?_
  refine VW.aload_n (pc' := 1) d_F_insert_0 rfl rfl ?_
  refine VW.gP (ci := 10) (T := T10) (N := 11) (k := 1) (k' := 1) (pc' := 4) d_F_insert_1 rfl lk_F_21 in10 rfl rfl rfl rfl (by first | exact hC.k 0 rfl | exact hC.k 9 rfl | exact hC.k 2 rfl | exact hC.k 3 rfl | exact hx) (by first | exact hC.p 1 rfl | exact hC.p 0 rfl | exact hC.p 9 rfl | rfl) ?_
  refine VW.iload_n (pc' := 5) d_F_insert_4 rfl rfl ?_
  refine VW.cV (ci := 0) (T := T0) (N := 8) (pc' := 8) d_F_insert_5 rfl mv_Engine_hasTransaction lk_F_157 rfl (by first | exact hC.k 0 rfl | exact hC.k 9 rfl | exact hC.k 2 rfl | exact hC.k 3 rfl | exact hx) rfl rfl rfl (by decide) (by decide) (spH) rfl rfl ?_
  refine VW.if_eq (tgt := 26) (pc' := 11) d_F_insert_8 rfl rfl (fun c8 => ?_) (fun c8 => ?_)
  · try have e8 := bIe c8
    refine VW.iconst (pc' := 27) d_F_insert_26 rfl (by decide) ?_
    refine VW.callSX (pc' := 30) d_F_insert_27 rfl (sp_F_demandPlace0) rfl ms_F_demandPlace.1 ms_F_demandPlace.2.1 rfl ms_F_demandPlace.2.2 lk_F_97 rfl rfl rfl (by decide) (by decide) (fun _ _ _ _ _ hz => ?_) (fun _ _ _ _ _ hz => by cases hz.1)
    obtain ⟨z1, z2, z3, z4, z5⟩ := hz
    cases z1
    replace z2 := z2.symm; replace z3 := z3.symm; replace z4 := z4.symm; replace z5 := z5.symm
    subst z2; subst z3; subst z4; subst z5
    exact Or.inl ⟨rfl, ex_rf⟩
    -- end
  · try have e8 := bIn c8
    refine VW.aload_n (pc' := 12) d_F_insert_11 rfl rfl ?_
    refine VW.gP (ci := 10) (T := T10) (N := 11) (k := 0) (k' := 0) (pc' := 15) d_F_insert_12 rfl lk_F_12 in10 rfl rfl rfl rfl (by first | exact hC.k 0 rfl | exact hC.k 9 rfl | exact hC.k 2 rfl | exact hC.k 3 rfl | exact hx) (by first | exact hC.p 1 rfl | exact hC.p 0 rfl | exact hC.p 9 rfl | rfl) ?_
    refine VW.iload_n (pc' := 16) d_F_insert_15 rfl rfl ?_
    refine VW.cV (ci := 7) (T := T7) (N := 8) (pc' := 19) d_F_insert_16 rfl mv_Schema_hasTable lk_F_123 rfl (by first | exact hC.k 0 rfl | exact hC.k 9 rfl | exact hC.k 2 rfl | exact hC.k 3 rfl | exact hx) rfl rfl rfl (by decide) (by decide) (spB) rfl rfl ?_
    refine VW.if_eq (tgt := 26) (pc' := 22) d_F_insert_19 rfl rfl (fun c19 => ?_) (fun c19 => ?_)
    · try have e19 := bIe c19
      refine VW.iconst (pc' := 27) d_F_insert_26 rfl (by decide) ?_
      refine VW.callSX (pc' := 30) d_F_insert_27 rfl (sp_F_demandPlace0) rfl ms_F_demandPlace.1 ms_F_demandPlace.2.1 rfl ms_F_demandPlace.2.2 lk_F_97 rfl rfl rfl (by decide) (by decide) (fun _ _ _ _ _ hz => ?_) (fun _ _ _ _ _ hz => by cases hz.1)
      obtain ⟨z1, z2, z3, z4, z5⟩ := hz
      cases z1
      replace z2 := z2.symm; replace z3 := z3.symm; replace z4 := z4.symm; replace z5 := z5.symm
      subst z2; subst z3; subst z4; subst z5
      exact Or.inl ⟨rfl, ex_rf⟩
      -- end
    · try have e19 := bIn c19
      refine VW.nrm ?_
      exact absurd ⟨e8, e19⟩ h
theorem insert_no2 (hC : ClW K P) (hL : EnL K P I n lq lv mv) (hi : i < n) (ht : 0 ≤ t ∧ t < I 1032 0) (h4 : I (tX i) 4 ≠ 0) : Sp m_F_insert true ({ frames := 12, cells := 1, slots := 6, locals := 400 } : Room) (ex K P J I (.inr eISE)) K P J I [vR (some 1000), vI (i : Int), vI t] := by
  have spH : Sp m_Engine_hasTransaction false (rmv 1 20) (ex K P J I (.inl (some (vI 1)))) K P J I [vR (some 1064), vI (i : Int)] := by
    have := sp_Engine_hasTransaction (J := J) hC hL (a := (i : Int))
    rw [bI1 (show 0 ≤ (i : Int) ∧ (i : Int) < n by omega)] at this
    exact this
  have spB : Sp m_Schema_hasTable false (rmv 0 0) (ex K P J I (.inl (some (vI 1)))) K P J I [vR (some 1032), vI t] := by
    have := sp_Schema_hasTable (J := J) (I := I) (a := t) hC.sc
    rw [bI1 ht] at this
    exact this
  have spA := sp_F_active0 (J := J) hC hL hi h4
  refine Sp.ofV (by decide) (Or.inl rfl) rfl ?_
  refine VW.aload_n (pc' := 1) d_F_insert_0 rfl rfl ?_
  refine VW.gP (ci := 10) (T := T10) (N := 11) (k := 1) (k' := 1) (pc' := 4) d_F_insert_1 rfl lk_F_21 in10 rfl rfl rfl rfl (by first | exact hC.k 0 rfl | exact hC.k 9 rfl | exact hC.k 2 rfl | exact hC.k 3 rfl | exact hx) (by first | exact hC.p 1 rfl | exact hC.p 0 rfl | exact hC.p 9 rfl | rfl) ?_
  refine VW.iload_n (pc' := 5) d_F_insert_4 rfl rfl ?_
  refine VW.cV (ci := 0) (T := T0) (N := 8) (pc' := 8) d_F_insert_5 rfl mv_Engine_hasTransaction lk_F_157 rfl (by first | exact hC.k 0 rfl | exact hC.k 9 rfl | exact hC.k 2 rfl | exact hC.k 3 rfl | exact hx) rfl rfl rfl (by decide) (by decide) (spH) rfl rfl ?_
  refine VW.if_eq (tgt := 26) (pc' := 11) d_F_insert_8 rfl rfl (fun c8 => ?_) (fun c8 => ?_)
  case refine_1 => exact absurd c8 (by decide)
  refine VW.aload_n (pc' := 12) d_F_insert_11 rfl rfl ?_
  refine VW.gP (ci := 10) (T := T10) (N := 11) (k := 0) (k' := 0) (pc' := 15) d_F_insert_12 rfl lk_F_12 in10 rfl rfl rfl rfl (by first | exact hC.k 0 rfl | exact hC.k 9 rfl | exact hC.k 2 rfl | exact hC.k 3 rfl | exact hx) (by first | exact hC.p 1 rfl | exact hC.p 0 rfl | exact hC.p 9 rfl | rfl) ?_
  refine VW.iload_n (pc' := 16) d_F_insert_15 rfl rfl ?_
  refine VW.cV (ci := 7) (T := T7) (N := 8) (pc' := 19) d_F_insert_16 rfl mv_Schema_hasTable lk_F_123 rfl (by first | exact hC.k 0 rfl | exact hC.k 9 rfl | exact hC.k 2 rfl | exact hC.k 3 rfl | exact hx) rfl rfl rfl (by decide) (by decide) (spB) rfl rfl ?_
  refine VW.if_eq (tgt := 26) (pc' := 22) d_F_insert_19 rfl rfl (fun c19 => ?_) (fun c19 => ?_)
  case refine_1 => exact absurd c19 (by decide)
  refine VW.iconst (pc' := 23) d_F_insert_22 rfl (by decide) ?_
  refine VW.goto (pc' := 27) d_F_insert_23 rfl ?_
  refine VW.callSX (pc' := 30) d_F_insert_27 rfl (sp_F_demandPlace1 (by decide)) rfl ms_F_demandPlace.1 ms_F_demandPlace.2.1 rfl ms_F_demandPlace.2.2 lk_F_97 rfl rfl rfl (by decide) (by decide) (fun _ _ _ _ _ hz => by cases hz.1) (fun r _ _ _ _ hz => ?_)
  obtain ⟨z1, z2, z3, z4, z5⟩ := hz
  cases z1
  replace z2 := z2.symm; replace z3 := z3.symm; replace z4 := z4.symm; replace z5 := z5.symm
  subst z2; subst z3; subst z4; subst z5
  refine VW.aload_n (pc' := 31) d_F_insert_30 rfl rfl ?_
  refine VW.iload_n (pc' := 32) d_F_insert_31 rfl rfl ?_
  refine VW.callVX (ci := 10) (T := T10) (N := 11) (pc' := 35) d_F_insert_32 rfl (spA) rfl mv_F_activeTransaction.1 mv_F_activeTransaction.2.1 rfl mv_F_activeTransaction.2.2.1 mv_F_activeTransaction.2.2.2 lk_F_160 rfl (by first | exact hC.k 0 rfl | exact hC.k 9 rfl | exact hC.k 2 rfl | exact hC.k 3 rfl | exact hx) rfl rfl rfl (by decide) (by decide) (fun _ _ _ _ _ hz => ?_) (fun _ _ _ _ _ hz => by cases hz.1)
  obtain ⟨z1, z2, z3, z4, z5⟩ := hz
  cases z1
  replace z2 := z2.symm; replace z3 := z3.symm; replace z4 := z4.symm; replace z5 := z5.symm
  subst z2; subst z3; subst z4; subst z5
  exact Or.inl ⟨rfl, ex_rf⟩
  -- end
theorem insert_no3 (hC : ClW K P) (hL : EnL K P I n lq lv mv) (hi : i < n) (ht : 0 ≤ t ∧ t < I 1032 0) (h6 : I 1032 0 ≤ 6) (h4 : I (tX i) 4 = 0) (hw : I 1000 9 ≠ I 1034 t) : Sp m_F_insert true ({ frames := 12, cells := 1, slots := 6, locals := 400 } : Room) (ex K P J I (.inr eISE)) K P J I [vR (some 1000), vI (i : Int), vI t] := by
  have hx := (hL.tx hi).k
  have spH : Sp m_Engine_hasTransaction false (rmv 1 20) (ex K P J I (.inl (some (vI 1)))) K P J I [vR (some 1064), vI (i : Int)] := by
    have := sp_Engine_hasTransaction (J := J) hC hL (a := (i : Int))
    rw [bI1 (show 0 ≤ (i : Int) ∧ (i : Int) < n by omega)] at this
    exact this
  have spB : Sp m_Schema_hasTable false (rmv 0 0) (ex K P J I (.inl (some (vI 1)))) K P J I [vR (some 1032), vI t] := by
    have := sp_Schema_hasTable (J := J) (I := I) (a := t) hC.sc
    rw [bI1 ht] at this
    exact this
  have spA := sp_F_active1 (J := J) hC hL hi h4
  refine Sp.ofV (by decide) (Or.inl rfl) rfl ?_
  refine VW.aload_n (pc' := 1) d_F_insert_0 rfl rfl ?_
  refine VW.gP (ci := 10) (T := T10) (N := 11) (k := 1) (k' := 1) (pc' := 4) d_F_insert_1 rfl lk_F_21 in10 rfl rfl rfl rfl (by first | exact hC.k 0 rfl | exact hC.k 9 rfl | exact hC.k 2 rfl | exact hC.k 3 rfl | exact hx) (by first | exact hC.p 1 rfl | exact hC.p 0 rfl | exact hC.p 9 rfl | rfl) ?_
  refine VW.iload_n (pc' := 5) d_F_insert_4 rfl rfl ?_
  refine VW.cV (ci := 0) (T := T0) (N := 8) (pc' := 8) d_F_insert_5 rfl mv_Engine_hasTransaction lk_F_157 rfl (by first | exact hC.k 0 rfl | exact hC.k 9 rfl | exact hC.k 2 rfl | exact hC.k 3 rfl | exact hx) rfl rfl rfl (by decide) (by decide) (spH) rfl rfl ?_
  refine VW.if_eq (tgt := 26) (pc' := 11) d_F_insert_8 rfl rfl (fun c8 => ?_) (fun c8 => ?_)
  case refine_1 => exact absurd c8 (by decide)
  refine VW.aload_n (pc' := 12) d_F_insert_11 rfl rfl ?_
  refine VW.gP (ci := 10) (T := T10) (N := 11) (k := 0) (k' := 0) (pc' := 15) d_F_insert_12 rfl lk_F_12 in10 rfl rfl rfl rfl (by first | exact hC.k 0 rfl | exact hC.k 9 rfl | exact hC.k 2 rfl | exact hC.k 3 rfl | exact hx) (by first | exact hC.p 1 rfl | exact hC.p 0 rfl | exact hC.p 9 rfl | rfl) ?_
  refine VW.iload_n (pc' := 16) d_F_insert_15 rfl rfl ?_
  refine VW.cV (ci := 7) (T := T7) (N := 8) (pc' := 19) d_F_insert_16 rfl mv_Schema_hasTable lk_F_123 rfl (by first | exact hC.k 0 rfl | exact hC.k 9 rfl | exact hC.k 2 rfl | exact hC.k 3 rfl | exact hx) rfl rfl rfl (by decide) (by decide) (spB) rfl rfl ?_
  refine VW.if_eq (tgt := 26) (pc' := 22) d_F_insert_19 rfl rfl (fun c19 => ?_) (fun c19 => ?_)
  case refine_1 => exact absurd c19 (by decide)
  refine VW.iconst (pc' := 23) d_F_insert_22 rfl (by decide) ?_
  refine VW.goto (pc' := 27) d_F_insert_23 rfl ?_
  refine VW.callSX (pc' := 30) d_F_insert_27 rfl (sp_F_demandPlace1 (by decide)) rfl ms_F_demandPlace.1 ms_F_demandPlace.2.1 rfl ms_F_demandPlace.2.2 lk_F_97 rfl rfl rfl (by decide) (by decide) (fun _ _ _ _ _ hz => by cases hz.1) (fun r _ _ _ _ hz => ?_)
  obtain ⟨z1, z2, z3, z4, z5⟩ := hz
  cases z1
  replace z2 := z2.symm; replace z3 := z3.symm; replace z4 := z4.symm; replace z5 := z5.symm
  subst z2; subst z3; subst z4; subst z5
  refine VW.aload_n (pc' := 31) d_F_insert_30 rfl rfl ?_
  refine VW.iload_n (pc' := 32) d_F_insert_31 rfl rfl ?_
  refine VW.callVX (ci := 10) (T := T10) (N := 11) (pc' := 35) d_F_insert_32 rfl (spA) rfl mv_F_activeTransaction.1 mv_F_activeTransaction.2.1 rfl mv_F_activeTransaction.2.2.1 mv_F_activeTransaction.2.2.2 lk_F_160 rfl (by first | exact hC.k 0 rfl | exact hC.k 9 rfl | exact hC.k 2 rfl | exact hC.k 3 rfl | exact hx) rfl rfl rfl (by decide) (by decide) (fun _ _ _ _ _ hz => by cases hz.1) (fun r _ _ _ _ hz => ?_)
  obtain ⟨z1, z2, z3, z4, z5⟩ := hz
  cases z1
  replace z2 := z2.symm; replace z3 := z3.symm; replace z4 := z4.symm; replace z5 := z5.symm
  subst z2; subst z3; subst z4; subst z5
  refine VW.astore_n (pc' := 36) d_F_insert_35 rfl rfl ?_
  refine VW.aload_n (pc' := 37) d_F_insert_36 rfl rfl ?_
  refine VW.gI (ci := 10) (T := T10) (N := 11) (k := 9) (k' := 9) (pc' := 40) d_F_insert_37 rfl lk_F_154 in10 rfl rfl rfl rfl (by first | exact hC.k 0 rfl | exact hC.k 9 rfl | exact hC.k 2 rfl | exact hC.k 3 rfl | exact hx) (by first | exact hC.p 1 rfl | exact hC.p 0 rfl | exact hC.p 9 rfl | rfl) ?_
  refine VW.aload_n (pc' := 41) d_F_insert_40 rfl rfl ?_
  refine VW.gP (ci := 10) (T := T10) (N := 11) (k := 0) (k' := 0) (pc' := 44) d_F_insert_41 rfl lk_F_12 in10 rfl rfl rfl rfl (by first | exact hC.k 0 rfl | exact hC.k 9 rfl | exact hC.k 2 rfl | exact hC.k 3 rfl | exact hx) (by first | exact hC.p 1 rfl | exact hC.p 0 rfl | exact hC.p 9 rfl | rfl) ?_
  refine VW.gP (ci := 7) (T := T7) (N := 8) (k := 1) (k' := 1) (pc' := 47) d_F_insert_44 rfl lk_F_164 in7 rfl rfl rfl rfl (by first | exact hC.k 0 rfl | exact hC.k 9 rfl | exact hC.k 2 rfl | exact hC.k 3 rfl | exact hx) (by first | exact hC.p 1 rfl | exact hC.p 0 rfl | exact hC.p 9 rfl | rfl) ?_
  refine VW.iload_n (pc' := 48) d_F_insert_47 rfl rfl ?_
  refine VW.ild (pc' := 49) d_F_insert_48 rfl (by first | exact hC.k 0 rfl | exact hC.k 9 rfl | exact hC.k 2 rfl | exact hC.k 3 rfl | exact hx) (by omega) (by omega) (by first | exact hC.p 1 rfl | exact hC.p 0 rfl | exact hC.p 9 rfl | rfl) ?_
  refine VW.icmp_ne (tgt := 56) (pc' := 52) d_F_insert_49 rfl rfl (fun c49 => ?_) (fun c49 => ?_)
  case refine_2 => exact absurd c49 (hw)
  refine VW.iconst (pc' := 57) d_F_insert_56 rfl (by decide) ?_
  refine VW.callSX (pc' := 60) d_F_insert_57 rfl (sp_F_demandState0) rfl ms_F_demandState.1 ms_F_demandState.2.1 rfl ms_F_demandState.2.2 lk_F_82 rfl rfl rfl (by decide) (by decide) (fun _ _ _ _ _ hz => ?_) (fun _ _ _ _ _ hz => by cases hz.1)
  obtain ⟨z1, z2, z3, z4, z5⟩ := hz
  cases z1
  replace z2 := z2.symm; replace z3 := z3.symm; replace z4 := z4.symm; replace z5 := z5.symm
  subst z2; subst z3; subst z4; subst z5
  exact Or.inl ⟨rfl, ex_rf⟩
  -- end
theorem begin_no1 (hC : ClW K P) (h : ¬ (0 ≤ x ∧ x ≤ 3)) : Sp m_F_begin true ({ frames := 12, cells := 1, slots := 6, locals := 400 } : Room) (ex K P J I (.inr eIOO)) K P J I [vR (some 1000), vI x] := by
  refine Sp.ofV (by decide) (Or.inl rfl) rfl ?_
  refine VW.iload_n (pc' := 1) d_F_begin_0 rfl rfl ?_
  refine VW.if_lt (tgt := 13) (pc' := 4) d_F_begin_1 rfl rfl (fun c1 => ?_) (fun c1 => ?_)
  · refine VW.iconst (pc' := 14) d_F_begin_13 rfl (by decide) ?_
    refine VW.callSX (pc' := 17) d_F_begin_14 rfl (sp_F_demandPlace0) rfl ms_F_demandPlace.1 ms_F_demandPlace.2.1 rfl ms_F_demandPlace.2.2 lk_F_97 rfl rfl rfl (by decide) (by decide) (fun _ _ _ _ _ hz => ?_) (fun _ _ _ _ _ hz => by cases hz.1)
    obtain ⟨z1, z2, z3, z4, z5⟩ := hz
    cases z1
    replace z2 := z2.symm; replace z3 := z3.symm; replace z4 := z4.symm; replace z5 := z5.symm
    subst z2; subst z3; subst z4; subst z5
    exact Or.inl ⟨rfl, ex_rf⟩
    -- end
  · refine VW.iload_n (pc' := 5) d_F_begin_4 rfl rfl ?_
    refine VW.iconst (pc' := 6) d_F_begin_5 rfl (by decide) ?_
    refine VW.icmp_ge (tgt := 13) (pc' := 9) d_F_begin_6 rfl rfl (fun c6 => ?_) (fun c6 => ?_)
    · refine VW.iconst (pc' := 14) d_F_begin_13 rfl (by decide) ?_
      refine VW.callSX (pc' := 17) d_F_begin_14 rfl (sp_F_demandPlace0) rfl ms_F_demandPlace.1 ms_F_demandPlace.2.1 rfl ms_F_demandPlace.2.2 lk_F_97 rfl rfl rfl (by decide) (by decide) (fun _ _ _ _ _ hz => ?_) (fun _ _ _ _ _ hz => by cases hz.1)
      obtain ⟨z1, z2, z3, z4, z5⟩ := hz
      cases z1
      replace z2 := z2.symm; replace z3 := z3.symm; replace z4 := z4.symm; replace z5 := z5.symm
      subst z2; subst z3; subst z4; subst z5
      exact Or.inl ⟨rfl, ex_rf⟩
      -- end
    · refine VW.nrm ?_
      exact absurd (show 0 ≤ x ∧ x ≤ 3 by omega) h
theorem begin_no2 (hC : ClW K P) (hL : EnL K P I n lq lv mv) (hx : 0 ≤ x ∧ x ≤ 3) (h : ¬ (opN I n < 4 ∧ n < 60)) : Sp m_F_begin true ({ frames := 12, cells := 1, slots := 6, locals := 400 } : Room) (ex K P J I (.inr eISE)) K P J I [vR (some 1000), vI x] := by
  have spC := sp_Engine_countOpen (J := J) hC hL
  have spZ : Sp m_java_util_ArrayList_size false (rmv 0 0) (ex K P J I (.inl (some (vI (n : Int))))) K P J I [vR (some 1448)] := by
    have := sp_java_util_ArrayList_size (J := J) (I := I) (P := P) hL.al.1
    rw [hL.sz] at this
    exact this
  refine Sp.ofV (by decide) (Or.inl rfl) rfl ?_
  refine VW.iload_n (pc' := 1) d_F_begin_0 rfl rfl ?_
  refine VW.if_lt (tgt := 13) (pc' := 4) d_F_begin_1 rfl rfl (fun c1 => ?_) (fun c1 => ?_)
  case refine_1 => exact absurd c1 (by omega)
  refine VW.iload_n (pc' := 5) d_F_begin_4 rfl rfl ?_
  refine VW.iconst (pc' := 6) d_F_begin_5 rfl (by decide) ?_
  refine VW.icmp_ge (tgt := 13) (pc' := 9) d_F_begin_6 rfl rfl (fun c6 => ?_) (fun c6 => ?_)
  case refine_1 => exact absurd c6 (by omega)
  refine VW.iconst (pc' := 10) d_F_begin_9 rfl (by decide) ?_
  refine VW.goto (pc' := 14) d_F_begin_10 rfl ?_
  refine VW.callSX (pc' := 17) d_F_begin_14 rfl (sp_F_demandPlace1 (by decide)) rfl ms_F_demandPlace.1 ms_F_demandPlace.2.1 rfl ms_F_demandPlace.2.2 lk_F_97 rfl rfl rfl (by decide) (by decide) (fun _ _ _ _ _ hz => by cases hz.1) (fun r _ _ _ _ hz => ?_)
  obtain ⟨z1, z2, z3, z4, z5⟩ := hz
  cases z1
  replace z2 := z2.symm; replace z3 := z3.symm; replace z4 := z4.symm; replace z5 := z5.symm
  subst z2; subst z3; subst z4; subst z5
  refine VW.aload_n (pc' := 18) d_F_begin_17 rfl rfl ?_
  refine VW.gP (ci := 10) (T := T10) (N := 11) (k := 1) (k' := 1) (pc' := 21) d_F_begin_18 rfl lk_F_21 in10 rfl rfl rfl rfl (by first | exact hC.k 0 rfl | exact hC.k 9 rfl | exact hL.al.1) (by first | exact hC.p 1 rfl | exact hC.p 17 rfl | rfl) ?_
  refine VW.cV (ci := 0) (T := T0) (N := 8) (pc' := 24) d_F_begin_21 rfl mv_Engine_countOpen lk_F_141 rfl (by first | exact hC.k 0 rfl | exact hC.k 9 rfl | exact hL.al.1) rfl rfl rfl (by decide) (by decide) (spC) rfl rfl ?_
  refine VW.iconst (pc' := 25) d_F_begin_24 rfl (by decide) ?_
  refine VW.icmp_ge (tgt := 47) (pc' := 28) d_F_begin_25 rfl rfl (fun c25 => ?_) (fun c25 => ?_)
  · refine VW.iconst (pc' := 48) d_F_begin_47 rfl (by decide) ?_
    refine VW.callSX (pc' := 51) d_F_begin_48 rfl (sp_F_demandState0) rfl ms_F_demandState.1 ms_F_demandState.2.1 rfl ms_F_demandState.2.2 lk_F_82 rfl rfl rfl (by decide) (by decide) (fun _ _ _ _ _ hz => ?_) (fun _ _ _ _ _ hz => by cases hz.1)
    obtain ⟨z1, z2, z3, z4, z5⟩ := hz
    cases z1
    replace z2 := z2.symm; replace z3 := z3.symm; replace z4 := z4.symm; replace z5 := z5.symm
    subst z2; subst z3; subst z4; subst z5
    exact Or.inl ⟨rfl, ex_rf⟩
    -- end
  · refine VW.aload_n (pc' := 29) d_F_begin_28 rfl rfl ?_
    refine VW.gP (ci := 10) (T := T10) (N := 11) (k := 1) (k' := 1) (pc' := 32) d_F_begin_29 rfl lk_F_21 in10 rfl rfl rfl rfl (by first | exact hC.k 0 rfl | exact hC.k 9 rfl | exact hL.al.1) (by first | exact hC.p 1 rfl | exact hC.p 17 rfl | rfl) ?_
    refine VW.gP (ci := 0) (T := T0) (N := 8) (k := 2) (k' := 2) (pc' := 35) d_F_begin_32 rfl lk_F_144 in0 rfl rfl rfl rfl (by first | exact hC.k 0 rfl | exact hC.k 9 rfl | exact hL.al.1) (by first | exact hC.p 1 rfl | exact hC.p 17 rfl | rfl) ?_
    refine VW.cV (ci := 12) (T := T12) (N := 3) (pc' := 38) d_F_begin_35 rfl mv_java_util_ArrayList_size lk_F_147 rfl (by first | exact hC.k 0 rfl | exact hC.k 9 rfl | exact hL.al.1) rfl rfl rfl (by decide) (by decide) (spZ) rfl rfl ?_
    refine VW.bipush (pc' := 40) d_F_begin_38 rfl (by decide) ?_
    refine VW.icmp_ge (tgt := 47) (pc' := 43) d_F_begin_40 rfl rfl (fun c40 => ?_) (fun c40 => ?_)
    · refine VW.iconst (pc' := 48) d_F_begin_47 rfl (by decide) ?_
      refine VW.callSX (pc' := 51) d_F_begin_48 rfl (sp_F_demandState0) rfl ms_F_demandState.1 ms_F_demandState.2.1 rfl ms_F_demandState.2.2 lk_F_82 rfl rfl rfl (by decide) (by decide) (fun _ _ _ _ _ hz => ?_) (fun _ _ _ _ _ hz => by cases hz.1)
      obtain ⟨z1, z2, z3, z4, z5⟩ := hz
      cases z1
      replace z2 := z2.symm; replace z3 := z3.symm; replace z4 := z4.symm; replace z5 := z5.symm
      subst z2; subst z3; subst z4; subst z5
      exact Or.inl ⟨rfl, ex_rf⟩
      -- end
    · refine VW.nrm ?_
      exact absurd (show opN I n < 4 ∧ n < 60 from ⟨by omega, by omega⟩) h
end
