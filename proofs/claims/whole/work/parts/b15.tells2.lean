/-! what a transaction tells -/
section
variable {K : KT} {P : PT} {J I : IT} {n lq i : Nat} {lv mv : Nat → Nat} {a t y c v : Int}
theorem own_run (hC : ClW K P) (hL : EnL K P I n lq lv mv) (hi : i < n) (h6 : I 1032 0 ≤ 6) (hc : (0 ≤ t ∧ t < I 1032 0) ∧ 0 ≤ c ∧ c < I 1034 t) (h4 : I 1034 t ≤ 4) : Sp m_F_own true ({ frames := 12, cells := 0, slots := 0, locals := 400 } : Room) (ex K P J I (.inl (some (vI (if bI (I (tX i) 4 = 0 ∨ I (tX i) 4 = 1) = 1 then rwCell I (tX i + 33) t y c else -2147483648))))) K P J I [vR (some 1000), vI (i : Int), vI t, vI y, vI c] := by
  have hx := (hL.tx hi).k
  have hr := (hL.tx hi).rows.1
  have hpr := (hL.tx hi).pr
  have spH : Sp m_Engine_hasTransaction false (rmv 1 20) (ex K P J I (.inl (some (vI 1)))) K P J I [vR (some 1064), vI (i : Int)] := by
    have := sp_Engine_hasTransaction (J := J) hC hL (a := (i : Int))
    rw [bI1 (show 0 ≤ (i : Int) ∧ (i : Int) < n by omega)] at this
    exact this
  have spT : Sp m_F_transactionAt true rmE0 (ex K P J I (.inl (some (vR (some (tX i)))))) K P J I [vR (some 1000), vI (i : Int)] := by
    have := sp_F_transactionAt1 (J := J) hC hL (a := (i : Int)) ⟨by omega, by omega⟩
    rw [show ((i : Int)).toNat = i by omega] at this
    exact this
  have spB : Sp m_Schema_hasColumn false (rmv 1 21) (ex K P J I (.inl (some (vI 1)))) K P J I [vR (some 1032), vI t, vI c] := by
    have := sp_Schema_hasColumn (J := J) (I := I) (a := t) (b := c) hC.sc h6
    rw [bI1 hc] at this
    exact this
  have spO := sp_Transaction_isOpen (J := J) (I := I) (hL.tx hi).1
  have spR := sp_Rows_cellOf (J := J) (I := I) (t := t) (y := y) (c := c) (hL.tx hi).rows ⟨hc.1.1, by omega⟩ ⟨hc.2.1, by omega⟩
  refine Sp.ofV (by decide) (Or.inl rfl) rfl ?_
  refine VW.aload_n (pc' := 1) d_F_own_0 rfl rfl ?_
  refine VW.gP (ci := 10) (T := T10) (N := 11) (k := 1) (k' := 1) (pc' := 4) d_F_own_1 rfl lk_F_21 in10 rfl rfl rfl rfl (by first | exact hC.k 0 rfl | exact hC.k 9 rfl | exact hC.k 2 rfl | exact hC.k 3 rfl | exact hC.k 1 rfl | exact hx | exact hr | exact hG.1 | exact hC.st.1) (by first | exact hC.p 1 rfl | exact hC.p 0 rfl | exact hC.p 9 rfl | exact hC.p 8 rfl | exact hC.p 16 rfl | exact hC.p 18 rfl | exact hpr | exact e9 | exact e10 | rfl) ?_
  refine VW.iload_n (pc' := 5) d_F_own_4 rfl rfl ?_
  refine VW.cV (ci := 0) (T := T0) (N := 8) (pc' := 8) d_F_own_5 rfl mv_Engine_hasTransaction lk_F_157 rfl (by first | exact hC.k 0 rfl | exact hC.k 9 rfl | exact hC.k 2 rfl | exact hC.k 3 rfl | exact hC.k 1 rfl | exact hx | exact hr | exact hG.1 | exact hC.st.1) rfl rfl rfl (by decide) (by decide) (spH) rfl rfl ?_
  refine VW.if_eq (tgt := 28) (pc' := 11) d_F_own_8 rfl rfl (fun c8 => ?_) (fun c8 => ?_)
  case refine_1 => exact absurd c8 (by decide)
  refine VW.aload_n (pc' := 12) d_F_own_11 rfl rfl ?_
  refine VW.gP (ci := 10) (T := T10) (N := 11) (k := 0) (k' := 0) (pc' := 15) d_F_own_12 rfl lk_F_12 in10 rfl rfl rfl rfl (by first | exact hC.k 0 rfl | exact hC.k 9 rfl | exact hC.k 2 rfl | exact hC.k 3 rfl | exact hC.k 1 rfl | exact hx | exact hr | exact hG.1 | exact hC.st.1) (by first | exact hC.p 1 rfl | exact hC.p 0 rfl | exact hC.p 9 rfl | exact hC.p 8 rfl | exact hC.p 16 rfl | exact hC.p 18 rfl | exact hpr | exact e9 | exact e10 | rfl) ?_
  refine VW.iload_n (pc' := 16) d_F_own_15 rfl rfl ?_
  refine VW.iload (pc' := 18) d_F_own_16 rfl rfl ?_
  refine VW.cV (ci := 7) (T := T7) (N := 8) (pc' := 21) d_F_own_18 rfl mv_Schema_hasColumn lk_F_93 rfl (by first | exact hC.k 0 rfl | exact hC.k 9 rfl | exact hC.k 2 rfl | exact hC.k 3 rfl | exact hC.k 1 rfl | exact hx | exact hr | exact hG.1 | exact hC.st.1) rfl rfl rfl (by decide) (by decide) (spB) rfl rfl ?_
  refine VW.if_eq (tgt := 28) (pc' := 24) d_F_own_21 rfl rfl (fun c21 => ?_) (fun c21 => ?_)
  case refine_1 => exact absurd c21 (by decide)
  refine VW.iconst (pc' := 25) d_F_own_24 rfl (by decide) ?_
  refine VW.goto (pc' := 29) d_F_own_25 rfl ?_
  refine VW.callSX (pc' := 32) d_F_own_29 rfl (sp_F_demandPlace1 (by decide)) rfl ms_F_demandPlace.1 ms_F_demandPlace.2.1 rfl ms_F_demandPlace.2.2 lk_F_97 rfl rfl rfl (by decide) (by decide) (fun _ _ _ _ _ hz => by cases hz.1) (fun r _ _ _ _ hz => ?_)
  obtain ⟨z1, z2, z3, z4, z5⟩ := hz
  cases z1
  replace z2 := z2.symm; replace z3 := z3.symm; replace z4 := z4.symm; replace z5 := z5.symm
  subst z2; subst z3; subst z4; subst z5
  refine VW.aload_n (pc' := 33) d_F_own_32 rfl rfl ?_
  refine VW.iload_n (pc' := 34) d_F_own_33 rfl rfl ?_
  refine VW.callVX (ci := 10) (T := T10) (N := 11) (pc' := 37) d_F_own_34 rfl (spT) rfl mv_F_transactionAt.1 mv_F_transactionAt.2.1 rfl mv_F_transactionAt.2.2.1 mv_F_transactionAt.2.2.2 lk_F_194 rfl (by first | exact hC.k 0 rfl | exact hC.k 9 rfl | exact hC.k 2 rfl | exact hC.k 3 rfl | exact hC.k 1 rfl | exact hx | exact hr | exact hG.1 | exact hC.st.1) rfl rfl rfl (by decide) (by decide) (fun _ _ _ _ _ hz => by cases hz.1) (fun r _ _ _ _ hz => ?_)
  obtain ⟨z1, z2, z3, z4, z5⟩ := hz
  cases z1
  replace z2 := z2.symm; replace z3 := z3.symm; replace z4 := z4.symm; replace z5 := z5.symm
  subst z2; subst z3; subst z4; subst z5
  refine VW.astore (pc' := 39) d_F_own_37 rfl rfl ?_
  refine VW.aload (pc' := 41) d_F_own_39 rfl rfl ?_
  refine VW.cV (ci := 8) (T := T8) (N := 19) (pc' := 44) d_F_own_41 rfl mv_Transaction_isOpen lk_F_197 rfl (by first | exact hC.k 0 rfl | exact hC.k 9 rfl | exact hC.k 2 rfl | exact hC.k 3 rfl | exact hC.k 1 rfl | exact hx | exact hr | exact hG.1 | exact hC.st.1) rfl rfl rfl (by decide) (by decide) (spO) rfl rfl ?_
  refine VW.if_eq (tgt := 62) (pc' := 47) d_F_own_44 rfl rfl (fun c44 => ?_) (fun c44 => ?_)
  · try have e44 := bIe c44
    refine VW.ldc (pc' := 64) (z := -2147483648) d_F_own_62 rfl lk_F_153 (by decide) (by decide) ?_
    exact VW.iret d_F_own_64 rfl rfl (by decide) (by decide) (by first | exact ex_v (if_pos (bI1 e44)) | exact ex_v (if_neg (by rw [bI0 e44]; decide)))
  · try have e44 := bIn c44
    refine VW.aload (pc' := 49) d_F_own_47 rfl rfl ?_
    refine VW.gP (ci := 8) (T := T8) (N := 19) (k := 3) (k' := 3) (pc' := 52) d_F_own_49 rfl lk_F_212 in8 rfl rfl rfl rfl (by first | exact hC.k 0 rfl | exact hC.k 9 rfl | exact hC.k 2 rfl | exact hC.k 3 rfl | exact hC.k 1 rfl | exact hx | exact hr | exact hG.1 | exact hC.st.1) (by first | exact hC.p 1 rfl | exact hC.p 0 rfl | exact hC.p 9 rfl | exact hC.p 8 rfl | exact hC.p 16 rfl | exact hC.p 18 rfl | exact hpr | exact e9 | exact e10 | rfl) ?_
    refine VW.iload_n (pc' := 53) d_F_own_52 rfl rfl ?_
    refine VW.iload_n (pc' := 54) d_F_own_53 rfl rfl ?_
    refine VW.iload (pc' := 56) d_F_own_54 rfl rfl ?_
    refine VW.cV (ci := 6) (T := T6) (N := 1) (pc' := 59) d_F_own_56 rfl mv_Rows_cellOf lk_F_215 rfl (by first | exact hC.k 0 rfl | exact hC.k 9 rfl | exact hC.k 2 rfl | exact hC.k 3 rfl | exact hC.k 1 rfl | exact hx | exact hr | exact hG.1 | exact hC.st.1) rfl rfl rfl (by decide) (by decide) (spR) rfl rfl ?_
    refine VW.goto (pc' := 64) d_F_own_59 rfl ?_
    exact VW.iret d_F_own_64 rfl rfl (by decide) (by decide) (by first | exact ex_v (if_pos (bI1 e44)) | exact ex_v (if_neg (by rw [bI0 e44]; decide)))
theorem own_no1 (hC : ClW K P) (hL : EnL K P I n lq lv mv) (h6 : I 1032 0 ≤ 6) (h : ¬ ((0 ≤ a ∧ a < n) ∧ (0 ≤ t ∧ t < I 1032 0) ∧ 0 ≤ c ∧ c < I 1034 t)) : Sp m_F_own true ({ frames := 12, cells := 1, slots := 6, locals := 400 } : Room) (ex K P J I (.inr eIOO)) K P J I [vR (some 1000), vI a, vI t, vI y, vI c] := by
  have spH := sp_Engine_hasTransaction (J := J) hC hL (a := a)
  have spB := sp_Schema_hasColumn (J := J) (I := I) (a := t) (b := c) hC.sc h6
  refine Sp.ofV (by decide) (Or.inl rfl) rfl ?_
  refine VW.aload_n (pc' := 1) d_F_own_0 rfl rfl ?_
  refine VW.gP (ci := 10) (T := T10) (N := 11) (k := 1) (k' := 1) (pc' := 4) d_F_own_1 rfl lk_F_21 in10 rfl rfl rfl rfl (by first | exact hC.k 0 rfl | exact hC.k 9 rfl | exact hC.k 2 rfl | exact hC.k 3 rfl | exact hC.k 1 rfl | exact hx | exact hr | exact hG.1 | exact hC.st.1) (by first | exact hC.p 1 rfl | exact hC.p 0 rfl | exact hC.p 9 rfl | exact hC.p 8 rfl | exact hC.p 16 rfl | exact hC.p 18 rfl | exact hpr | exact e9 | exact e10 | rfl) ?_
  refine VW.iload_n (pc' := 5) d_F_own_4 rfl rfl ?_
  refine VW.cV (ci := 0) (T := T0) (N := 8) (pc' := 8) d_F_own_5 rfl mv_Engine_hasTransaction lk_F_157 rfl (by first | exact hC.k 0 rfl | exact hC.k 9 rfl | exact hC.k 2 rfl | exact hC.k 3 rfl | exact hC.k 1 rfl | exact hx | exact hr | exact hG.1 | exact hC.st.1) rfl rfl rfl (by decide) (by decide) (spH) rfl rfl ?_
  refine VW.if_eq (tgt := 28) (pc' := 11) d_F_own_8 rfl rfl (fun c8 => ?_) (fun c8 => ?_)
  · try have e8 := bIe c8
    refine VW.iconst (pc' := 29) d_F_own_28 rfl (by decide) ?_
    refine VW.callSX (pc' := 32) d_F_own_29 rfl (sp_F_demandPlace0) rfl ms_F_demandPlace.1 ms_F_demandPlace.2.1 rfl ms_F_demandPlace.2.2 lk_F_97 rfl rfl rfl (by decide) (by decide) (fun _ _ _ _ _ hz => ?_) (fun _ _ _ _ _ hz => by cases hz.1)
    obtain ⟨z1, z2, z3, z4, z5⟩ := hz
    cases z1
    replace z2 := z2.symm; replace z3 := z3.symm; replace z4 := z4.symm; replace z5 := z5.symm
    subst z2; subst z3; subst z4; subst z5
    exact Or.inl ⟨rfl, ex_rf⟩
    -- end
  · try have e8 := bIn c8
    refine VW.aload_n (pc' := 12) d_F_own_11 rfl rfl ?_
    refine VW.gP (ci := 10) (T := T10) (N := 11) (k := 0) (k' := 0) (pc' := 15) d_F_own_12 rfl lk_F_12 in10 rfl rfl rfl rfl (by first | exact hC.k 0 rfl | exact hC.k 9 rfl | exact hC.k 2 rfl | exact hC.k 3 rfl | exact hC.k 1 rfl | exact hx | exact hr | exact hG.1 | exact hC.st.1) (by first | exact hC.p 1 rfl | exact hC.p 0 rfl | exact hC.p 9 rfl | exact hC.p 8 rfl | exact hC.p 16 rfl | exact hC.p 18 rfl | exact hpr | exact e9 | exact e10 | rfl) ?_
    refine VW.iload_n (pc' := 16) d_F_own_15 rfl rfl ?_
    refine VW.iload (pc' := 18) d_F_own_16 rfl rfl ?_
    refine VW.cV (ci := 7) (T := T7) (N := 8) (pc' := 21) d_F_own_18 rfl mv_Schema_hasColumn lk_F_93 rfl (by first | exact hC.k 0 rfl | exact hC.k 9 rfl | exact hC.k 2 rfl | exact hC.k 3 rfl | exact hC.k 1 rfl | exact hx | exact hr | exact hG.1 | exact hC.st.1) rfl rfl rfl (by decide) (by decide) (spB) rfl rfl ?_
    refine VW.if_eq (tgt := 28) (pc' := 24) d_F_own_21 rfl rfl (fun c21 => ?_) (fun c21 => ?_)
    · try have e21 := bIe c21
      refine VW.iconst (pc' := 29) d_F_own_28 rfl (by decide) ?_
      refine VW.callSX (pc' := 32) d_F_own_29 rfl (sp_F_demandPlace0) rfl ms_F_demandPlace.1 ms_F_demandPlace.2.1 rfl ms_F_demandPlace.2.2 lk_F_97 rfl rfl rfl (by decide) (by decide) (fun _ _ _ _ _ hz => ?_) (fun _ _ _ _ _ hz => by cases hz.1)
      obtain ⟨z1, z2, z3, z4, z5⟩ := hz
      cases z1
      replace z2 := z2.symm; replace z3 := z3.symm; replace z4 := z4.symm; replace z5 := z5.symm
      subst z2; subst z3; subst z4; subst z5
      exact Or.inl ⟨rfl, ex_rf⟩
      -- end
    · try have e21 := bIn c21
      refine VW.nrm ?_
      exact absurd ⟨e8, e21⟩ h
theorem hasRead_run (hC : ClW K P) (hL : EnL K P I n lq lv mv) (hi : i < n) (h6 : I 1032 0 ≤ 6) (ht : 0 ≤ t ∧ t < I 1032 0) (hN : TxN I i (lv i) (mv i)) : Sp m_F_hasRead true ({ frames := 12, cells := 0, slots := 0, locals := 400 } : Room) (ex K P J I (.inl (some (vI (bI (whOf I i t ∨ rdOf I i (lv i) t y)))))) K P J I [vR (some 1000), vI (i : Int), vI t, vI y] := by
  have hx := (hL.tx hi).k
  have hr := (hL.tx hi).rows.1
  have hpr := (hL.tx hi).pr
  have spH : Sp m_Engine_hasTransaction false (rmv 1 20) (ex K P J I (.inl (some (vI 1)))) K P J I [vR (some 1064), vI (i : Int)] := by
    have := sp_Engine_hasTransaction (J := J) hC hL (a := (i : Int))
    rw [bI1 (show 0 ≤ (i : Int) ∧ (i : Int) < n by omega)] at this
    exact this
  have spT : Sp m_F_transactionAt true rmE0 (ex K P J I (.inl (some (vR (some (tX i)))))) K P J I [vR (some 1000), vI (i : Int)] := by
    have := sp_F_transactionAt1 (J := J) hC hL (a := (i : Int)) ⟨by omega, by omega⟩
    rw [show ((i : Int)).toNat = i by omega] at this
    exact this
  have spB : Sp m_Schema_hasTable false (rmv 0 0) (ex K P J I (.inl (some (vI 1)))) K P J I [vR (some 1032), vI t] := by
    have := sp_Schema_hasTable (J := J) (I := I) (a := t) hC.sc
    rw [bI1 ht] at this
    exact this
  have l15 := (hL.tx hi).2.2.2.2.1
  have e2 : (((8 * 2 ^ lv i : Nat)) : Int) = 8 * 2 ^ lv i := by simp
  have big : ((8 * 2 ^ lv i : Nat) : Int) ≤ 262144 := by
    have : (2 : Nat) ^ lv i ≤ 2 ^ 14 := Nat.pow_le_pow_right (by decide) (by omega)
    omega
  have n1 := hN.1
  have spK := sp_Transaction_knows (J := J) (I := I) (t := t) (y := y) (hL.tx hi).1 ⟨ht.1, by omega⟩ hN.2.2.2.1 ⟨by omega, by omega, by omega⟩
  refine Sp.ofV (by decide) (Or.inl rfl) rfl ?_
  refine VW.aload_n (pc' := 1) d_F_hasRead_0 rfl rfl ?_
  refine VW.gP (ci := 10) (T := T10) (N := 11) (k := 1) (k' := 1) (pc' := 4) d_F_hasRead_1 rfl lk_F_21 in10 rfl rfl rfl rfl (by first | exact hC.k 0 rfl | exact hC.k 9 rfl | exact hC.k 2 rfl | exact hC.k 3 rfl | exact hC.k 1 rfl | exact hx | exact hr | exact hG.1 | exact hC.st.1) (by first | exact hC.p 1 rfl | exact hC.p 0 rfl | exact hC.p 9 rfl | exact hC.p 8 rfl | exact hC.p 16 rfl | exact hC.p 18 rfl | exact hpr | exact e9 | exact e10 | rfl) ?_
  refine VW.iload_n (pc' := 5) d_F_hasRead_4 rfl rfl ?_
  refine VW.cV (ci := 0) (T := T0) (N := 8) (pc' := 8) d_F_hasRead_5 rfl mv_Engine_hasTransaction lk_F_157 rfl (by first | exact hC.k 0 rfl | exact hC.k 9 rfl | exact hC.k 2 rfl | exact hC.k 3 rfl | exact hC.k 1 rfl | exact hx | exact hr | exact hG.1 | exact hC.st.1) rfl rfl rfl (by decide) (by decide) (spH) rfl rfl ?_
  refine VW.if_eq (tgt := 26) (pc' := 11) d_F_hasRead_8 rfl rfl (fun c8 => ?_) (fun c8 => ?_)
  case refine_1 => exact absurd c8 (by decide)
  refine VW.aload_n (pc' := 12) d_F_hasRead_11 rfl rfl ?_
  refine VW.gP (ci := 10) (T := T10) (N := 11) (k := 0) (k' := 0) (pc' := 15) d_F_hasRead_12 rfl lk_F_12 in10 rfl rfl rfl rfl (by first | exact hC.k 0 rfl | exact hC.k 9 rfl | exact hC.k 2 rfl | exact hC.k 3 rfl | exact hC.k 1 rfl | exact hx | exact hr | exact hG.1 | exact hC.st.1) (by first | exact hC.p 1 rfl | exact hC.p 0 rfl | exact hC.p 9 rfl | exact hC.p 8 rfl | exact hC.p 16 rfl | exact hC.p 18 rfl | exact hpr | exact e9 | exact e10 | rfl) ?_
  refine VW.iload_n (pc' := 16) d_F_hasRead_15 rfl rfl ?_
  refine VW.cV (ci := 7) (T := T7) (N := 8) (pc' := 19) d_F_hasRead_16 rfl mv_Schema_hasTable lk_F_123 rfl (by first | exact hC.k 0 rfl | exact hC.k 9 rfl | exact hC.k 2 rfl | exact hC.k 3 rfl | exact hC.k 1 rfl | exact hx | exact hr | exact hG.1 | exact hC.st.1) rfl rfl rfl (by decide) (by decide) (spB) rfl rfl ?_
  refine VW.if_eq (tgt := 26) (pc' := 22) d_F_hasRead_19 rfl rfl (fun c19 => ?_) (fun c19 => ?_)
  case refine_1 => exact absurd c19 (by decide)
  refine VW.iconst (pc' := 23) d_F_hasRead_22 rfl (by decide) ?_
  refine VW.goto (pc' := 27) d_F_hasRead_23 rfl ?_
  refine VW.callSX (pc' := 30) d_F_hasRead_27 rfl (sp_F_demandPlace1 (by decide)) rfl ms_F_demandPlace.1 ms_F_demandPlace.2.1 rfl ms_F_demandPlace.2.2 lk_F_97 rfl rfl rfl (by decide) (by decide) (fun _ _ _ _ _ hz => by cases hz.1) (fun r _ _ _ _ hz => ?_)
  obtain ⟨z1, z2, z3, z4, z5⟩ := hz
  cases z1
  replace z2 := z2.symm; replace z3 := z3.symm; replace z4 := z4.symm; replace z5 := z5.symm
  subst z2; subst z3; subst z4; subst z5
  refine VW.aload_n (pc' := 31) d_F_hasRead_30 rfl rfl ?_
  refine VW.iload_n (pc' := 32) d_F_hasRead_31 rfl rfl ?_
  refine VW.callVX (ci := 10) (T := T10) (N := 11) (pc' := 35) d_F_hasRead_32 rfl (spT) rfl mv_F_transactionAt.1 mv_F_transactionAt.2.1 rfl mv_F_transactionAt.2.2.1 mv_F_transactionAt.2.2.2 lk_F_194 rfl (by first | exact hC.k 0 rfl | exact hC.k 9 rfl | exact hC.k 2 rfl | exact hC.k 3 rfl | exact hC.k 1 rfl | exact hx | exact hr | exact hG.1 | exact hC.st.1) rfl rfl rfl (by decide) (by decide) (fun _ _ _ _ _ hz => by cases hz.1) (fun r _ _ _ _ hz => ?_)
  obtain ⟨z1, z2, z3, z4, z5⟩ := hz
  cases z1
  replace z2 := z2.symm; replace z3 := z3.symm; replace z4 := z4.symm; replace z5 := z5.symm
  subst z2; subst z3; subst z4; subst z5
  refine VW.iload_n (pc' := 36) d_F_hasRead_35 rfl rfl ?_
  refine VW.iload_n (pc' := 37) d_F_hasRead_36 rfl rfl ?_
  refine VW.cV (ci := 8) (T := T8) (N := 19) (pc' := 40) d_F_hasRead_37 rfl mv_Transaction_knows lk_F_209 rfl (by first | exact hC.k 0 rfl | exact hC.k 9 rfl | exact hC.k 2 rfl | exact hC.k 3 rfl | exact hC.k 1 rfl | exact hx | exact hr | exact hG.1 | exact hC.st.1) rfl rfl rfl (by decide) (by decide) (spK) rfl rfl ?_
  exact VW.iret d_F_hasRead_40 rfl (narZ (bI_01 _)) (by decide) (by decide) ex_rf
theorem hasRead_no1 (hC : ClW K P) (hL : EnL K P I n lq lv mv) (h : ¬ ((0 ≤ a ∧ a < n) ∧ 0 ≤ t ∧ t < I 1032 0)) : Sp m_F_hasRead true ({ frames := 12, cells := 1, slots := 6, locals := 400 } : Room) (ex K P J I (.inr eIOO)) K P J I [vR (some 1000), vI a, vI t, vI y] := by
  have spH := sp_Engine_hasTransaction (J := J) hC hL (a := a)
  have spB := sp_Schema_hasTable (J := J) (I := I) (a := t) hC.sc
  refine Sp.ofV (by decide) (Or.inl rfl) rfl ?_
  refine VW.aload_n (pc' := 1) d_F_hasRead_0 rfl rfl ?_
  refine VW.gP (ci := 10) (T := T10) (N := 11) (k := 1) (k' := 1) (pc' := 4) d_F_hasRead_1 rfl lk_F_21 in10 rfl rfl rfl rfl (by first | exact hC.k 0 rfl | exact hC.k 9 rfl | exact hC.k 2 rfl | exact hC.k 3 rfl | exact hC.k 1 rfl | exact hx | exact hr | exact hG.1 | exact hC.st.1) (by first | exact hC.p 1 rfl | exact hC.p 0 rfl | exact hC.p 9 rfl | exact hC.p 8 rfl | exact hC.p 16 rfl | exact hC.p 18 rfl | exact hpr | exact e9 | exact e10 | rfl) ?_
  refine VW.iload_n (pc' := 5) d_F_hasRead_4 rfl rfl ?_
  refine VW.cV (ci := 0) (T := T0) (N := 8) (pc' := 8) d_F_hasRead_5 rfl mv_Engine_hasTransaction lk_F_157 rfl (by first | exact hC.k 0 rfl | exact hC.k 9 rfl | exact hC.k 2 rfl | exact hC.k 3 rfl | exact hC.k 1 rfl | exact hx | exact hr | exact hG.1 | exact hC.st.1) rfl rfl rfl (by decide) (by decide) (spH) rfl rfl ?_
  refine VW.if_eq (tgt := 26) (pc' := 11) d_F_hasRead_8 rfl rfl (fun c8 => ?_) (fun c8 => ?_)
  · try have e8 := bIe c8
    refine VW.iconst (pc' := 27) d_F_hasRead_26 rfl (by decide) ?_
    refine VW.callSX (pc' := 30) d_F_hasRead_27 rfl (sp_F_demandPlace0) rfl ms_F_demandPlace.1 ms_F_demandPlace.2.1 rfl ms_F_demandPlace.2.2 lk_F_97 rfl rfl rfl (by decide) (by decide) (fun _ _ _ _ _ hz => ?_) (fun _ _ _ _ _ hz => by cases hz.1)
    obtain ⟨z1, z2, z3, z4, z5⟩ := hz
    cases z1
    replace z2 := z2.symm; replace z3 := z3.symm; replace z4 := z4.symm; replace z5 := z5.symm
    subst z2; subst z3; subst z4; subst z5
    exact Or.inl ⟨rfl, ex_rf⟩
    -- end
  · try have e8 := bIn c8
    refine VW.aload_n (pc' := 12) d_F_hasRead_11 rfl rfl ?_
    refine VW.gP (ci := 10) (T := T10) (N := 11) (k := 0) (k' := 0) (pc' := 15) d_F_hasRead_12 rfl lk_F_12 in10 rfl rfl rfl rfl (by first | exact hC.k 0 rfl | exact hC.k 9 rfl | exact hC.k 2 rfl | exact hC.k 3 rfl | exact hC.k 1 rfl | exact hx | exact hr | exact hG.1 | exact hC.st.1) (by first | exact hC.p 1 rfl | exact hC.p 0 rfl | exact hC.p 9 rfl | exact hC.p 8 rfl | exact hC.p 16 rfl | exact hC.p 18 rfl | exact hpr | exact e9 | exact e10 | rfl) ?_
    refine VW.iload_n (pc' := 16) d_F_hasRead_15 rfl rfl ?_
    refine VW.cV (ci := 7) (T := T7) (N := 8) (pc' := 19) d_F_hasRead_16 rfl mv_Schema_hasTable lk_F_123 rfl (by first | exact hC.k 0 rfl | exact hC.k 9 rfl | exact hC.k 2 rfl | exact hC.k 3 rfl | exact hC.k 1 rfl | exact hx | exact hr | exact hG.1 | exact hC.st.1) rfl rfl rfl (by decide) (by decide) (spB) rfl rfl ?_
    refine VW.if_eq (tgt := 26) (pc' := 22) d_F_hasRead_19 rfl rfl (fun c19 => ?_) (fun c19 => ?_)
    · try have e19 := bIe c19
      refine VW.iconst (pc' := 27) d_F_hasRead_26 rfl (by decide) ?_
      refine VW.callSX (pc' := 30) d_F_hasRead_27 rfl (sp_F_demandPlace0) rfl ms_F_demandPlace.1 ms_F_demandPlace.2.1 rfl ms_F_demandPlace.2.2 lk_F_97 rfl rfl rfl (by decide) (by decide) (fun _ _ _ _ _ hz => ?_) (fun _ _ _ _ _ hz => by cases hz.1)
      obtain ⟨z1, z2, z3, z4, z5⟩ := hz
      cases z1
      replace z2 := z2.symm; replace z3 := z3.symm; replace z4 := z4.symm; replace z5 := z5.symm
      subst z2; subst z3; subst z4; subst z5
      exact Or.inl ⟨rfl, ex_rf⟩
      -- end
    · try have e19 := bIn c19
      refine VW.nrm ?_
      exact absurd ⟨e8, e19⟩ h
end
