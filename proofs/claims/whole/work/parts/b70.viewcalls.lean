/-! viewRows, viewAt, viewAnew, at -/
section
variable {K : KT} {P : PT} {J I S : IT} {nv nq l3 l4 j lq : Nat} {a b c : Int} {w : Nat} {M : List (List Int)}
theorem F_hasV1 (hC : ClW K P) (hz : I 1512 2 = (nv : Int)) (h : 0 ≤ a ∧ a < nv) : Sp m_F_hasView false (rmv 1 20) (ex K P J I (.inl (some (vI 1)))) K P J I [vR (some 1000), vI a] := by
  have := sp_F_hasView (J := J) (a := a) hC hz
  rw [bI1 h] at this
  exact this
theorem F_hasV0 (hC : ClW K P) (hz : I 1512 2 = (nv : Int)) (h : ¬ (0 ≤ a ∧ a < nv)) : Sp m_F_hasView false (rmv 1 20) (ex K P J I (.inl (some (vI 0)))) K P J I [vR (some 1000), vI a] := by
  have := sp_F_hasView (J := J) (a := a) hC hz
  rw [bI0 h] at this
  exact this
theorem viewRows_run (hC : ClW K P) (hL : VnL K P I S nv l3 l4) (hj : j < nv) : Sp m_F_viewRows true ({ frames := 12, cells := 0, slots := 0, locals := 400 } : Room) (ex K P J I (.inl (some (vI (I (vX j) 1))))) K P J I [vR (some 1000), vI (j : Int)] := by
  have hz : I 1512 2 = (nv : Int) := hL.1.1.2.2.2.1.1
  have hz2 : I 1544 2 = (nv : Int) := hL.1.2.2.2.2.1.1
  have hcp := hL.1.1.2.2.2.1.2.1
  have hcp2 := hL.1.2.2.2.2.1.2.1
  obtain ⟨el1, el2, hG⟩ := hL.2.2 j hj
  have spG := sp_java_util_ArrayList_get (J := J) (I := I) (i := (j : Int)) hL.1.2.1 (by rw [hz2]; omega) (by rw [hz2]; omega)
  rw [el2] at spG
  have spY := F_hasV1 (J := J) hC hz (a := (j : Int)) ⟨by omega, by omega⟩
  refine Sp.ofV (by decide) (Or.inl rfl) rfl ?_
  refine VW.aload_n (pc' := 1) d_F_viewRows_0 rfl rfl ?_
  refine VW.iload_n (pc' := 2) d_F_viewRows_1 rfl rfl ?_
  refine VW.cV (ci := 10) (T := T10) (N := 11) (pc' := 5) d_F_viewRows_2 rfl mv_F_hasView lk_F_322 rfl (by first | exact hC.k 0 rfl | exact hC.k 55 rfl | exact hC.k 56 rfl | exact hC.k 26 rfl | exact hG.1 | exact hC.k 9 rfl) rfl rfl rfl (by decide) (by decide) (spY) rfl rfl ?_
  refine VW.callSX (pc' := 8) d_F_viewRows_5 rfl (sp_F_demandPlace1 (by decide)) rfl ms_F_demandPlace.1 ms_F_demandPlace.2.1 rfl ms_F_demandPlace.2.2 lk_F_97 rfl rfl rfl (by decide) (by decide) (fun _ _ _ _ _ hz => by cases hz.1) (fun r _ _ _ _ hz => ?_)
  obtain ⟨z1, z2, z3, z4, z5⟩ := hz
  cases z1
  replace z2 := z2.symm; replace z3 := z3.symm; replace z4 := z4.symm; replace z5 := z5.symm
  subst z2; subst z3; subst z4; subst z5
  refine VW.aload_n (pc' := 9) d_F_viewRows_8 rfl rfl ?_
  refine VW.gP (ci := 10) (T := T10) (N := 11) (k := 6) (k' := 6) (pc' := 12) d_F_viewRows_9 rfl lk_F_49 in10 rfl rfl rfl rfl (by first | exact hC.k 0 rfl | exact hC.k 55 rfl | exact hC.k 56 rfl | exact hC.k 26 rfl | exact hG.1 | exact hC.k 9 rfl) (by first | exact hC.p 1 rfl | exact hC.p 2 rfl | exact hC.p 5 rfl | exact hC.p 6 rfl | exact hC.p 7 rfl | exact hC.p 16 rfl | rfl) ?_
  refine VW.iload_n (pc' := 13) d_F_viewRows_12 rfl rfl ?_
  refine VW.cV (ci := 12) (T := T12) (N := 3) (pc' := 16) d_F_viewRows_13 rfl mv_java_util_ArrayList_get lk_F_270 rfl (by first | exact hC.k 0 rfl | exact hC.k 55 rfl | exact hC.k 56 rfl | exact hC.k 26 rfl | exact hG.1 | exact hC.k 9 rfl) rfl rfl rfl (by decide) (by decide) (spG) rfl rfl ?_
  refine VW.cast (ci := 5) (T := T5) (NN := 3) (pc' := 19) d_F_viewRows_16 rfl lk_F_52 rfl (by first | exact hC.k 0 rfl | exact hC.k 55 rfl | exact hC.k 56 rfl | exact hC.k 26 rfl | exact hG.1 | exact hC.k 9 rfl) ?_
  refine VW.gI (ci := 5) (T := T5) (N := 3) (k := 1) (k' := 1) (pc' := 22) d_F_viewRows_19 rfl lk_F_285 in5 rfl rfl rfl rfl (by first | exact hC.k 0 rfl | exact hC.k 55 rfl | exact hC.k 56 rfl | exact hC.k 26 rfl | exact hG.1 | exact hC.k 9 rfl) (by first | exact hC.p 1 rfl | exact hC.p 2 rfl | exact hC.p 5 rfl | exact hC.p 6 rfl | exact hC.p 7 rfl | exact hC.p 16 rfl | rfl) ?_
  exact VW.iret d_F_viewRows_22 rfl rfl (by decide) (by decide) ex_rf
theorem viewRows_no1 (hC : ClW K P) (hL : VnL K P I S nv l3 l4) (ha : ¬ (0 ≤ a ∧ a < nv)) : Sp m_F_viewRows true ({ frames := 12, cells := 1, slots := 6, locals := 400 } : Room) (ex K P J I (.inr eIOO)) K P J I [vR (some 1000), vI a] := by
  have hz : I 1512 2 = (nv : Int) := hL.1.1.2.2.2.1.1
  have spY := F_hasV0 (J := J) hC hz (a := a) ha
  refine Sp.ofV (by decide) (Or.inl rfl) rfl ?_
  refine VW.aload_n (pc' := 1) d_F_viewRows_0 rfl rfl ?_
  refine VW.iload_n (pc' := 2) d_F_viewRows_1 rfl rfl ?_
  refine VW.cV (ci := 10) (T := T10) (N := 11) (pc' := 5) d_F_viewRows_2 rfl mv_F_hasView lk_F_322 rfl (by first | exact hC.k 0 rfl) rfl rfl rfl (by decide) (by decide) (spY) rfl rfl ?_
  refine VW.callSX (pc' := 8) d_F_viewRows_5 rfl (sp_F_demandPlace0) rfl ms_F_demandPlace.1 ms_F_demandPlace.2.1 rfl ms_F_demandPlace.2.2 lk_F_97 rfl rfl rfl (by decide) (by decide) (fun _ _ _ _ _ hz => ?_) (fun _ _ _ _ _ hz => by cases hz.1)
  obtain ⟨z1, z2, z3, z4, z5⟩ := hz
  cases z1
  replace z2 := z2.symm; replace z3 := z3.symm; replace z4 := z4.symm; replace z5 := z5.symm
  subst z2; subst z3; subst z4; subst z5
  exact Or.inl ⟨rfl, ex_rf⟩
  -- end
theorem viewAt_no1 (hC : ClW K P) (hL : VnL K P I S nv l3 l4) (ha : ¬ (0 ≤ a ∧ a < nv)) : Sp m_F_viewAt true ({ frames := 12, cells := 1, slots := 6, locals := 400 } : Room) (ex K P J I (.inr eIOO)) K P J I [vR (some 1000), vI a, vI b, vI c] := by
  have hz : I 1512 2 = (nv : Int) := hL.1.1.2.2.2.1.1
  have spY := F_hasV0 (J := J) hC hz (a := a) ha
  refine Sp.ofV (by decide) (Or.inl rfl) rfl ?_
  refine VW.aload_n (pc' := 1) d_F_viewAt_0 rfl rfl ?_
  refine VW.iload_n (pc' := 2) d_F_viewAt_1 rfl rfl ?_
  refine VW.cV (ci := 10) (T := T10) (N := 11) (pc' := 5) d_F_viewAt_2 rfl mv_F_hasView lk_F_322 rfl (by first | exact hC.k 0 rfl) rfl rfl rfl (by decide) (by decide) (spY) rfl rfl ?_
  refine VW.callSX (pc' := 8) d_F_viewAt_5 rfl (sp_F_demandPlace0) rfl ms_F_demandPlace.1 ms_F_demandPlace.2.1 rfl ms_F_demandPlace.2.2 lk_F_97 rfl rfl rfl (by decide) (by decide) (fun _ _ _ _ _ hz => ?_) (fun _ _ _ _ _ hz => by cases hz.1)
  obtain ⟨z1, z2, z3, z4, z5⟩ := hz
  cases z1
  replace z2 := z2.symm; replace z3 := z3.symm; replace z4 := z4.symm; replace z5 := z5.symm
  subst z2; subst z3; subst z4; subst z5
  exact Or.inl ⟨rfl, ex_rf⟩
  -- end
theorem viewAnew_no1 (hC : ClW K P) (hL : VnL K P I S nv l3 l4) (ha : ¬ (0 ≤ a ∧ a < nv)) : Sp m_F_viewAnew true ({ frames := 12, cells := 1, slots := 6, locals := 400 } : Room) (ex K P J I (.inr eIOO)) K P J I [vR (some 1000), vI a, vI b, vI c] := by
  have hz : I 1512 2 = (nv : Int) := hL.1.1.2.2.2.1.1
  have spY := F_hasV0 (J := J) hC hz (a := a) ha
  refine Sp.ofV (by decide) (Or.inl rfl) rfl ?_
  refine VW.aload_n (pc' := 1) d_F_viewAnew_0 rfl rfl ?_
  refine VW.iload_n (pc' := 2) d_F_viewAnew_1 rfl rfl ?_
  refine VW.cV (ci := 10) (T := T10) (N := 11) (pc' := 5) d_F_viewAnew_2 rfl mv_F_hasView lk_F_322 rfl (by first | exact hC.k 0 rfl) rfl rfl rfl (by decide) (by decide) (spY) rfl rfl ?_
  refine VW.callSX (pc' := 8) d_F_viewAnew_5 rfl (sp_F_demandPlace0) rfl ms_F_demandPlace.1 ms_F_demandPlace.2.1 rfl ms_F_demandPlace.2.2 lk_F_97 rfl rfl rfl (by decide) (by decide) (fun _ _ _ _ _ hz => ?_) (fun _ _ _ _ _ hz => by cases hz.1)
  obtain ⟨z1, z2, z3, z4, z5⟩ := hz
  cases z1
  replace z2 := z2.symm; replace z3 := z3.symm; replace z4 := z4.symm; replace z5 := z5.symm
  subst z2; subst z3; subst z4; subst z5
  exact Or.inl ⟨rfl, ex_rf⟩
  -- end
theorem viewAt_run (hC : ClW K P) (hL : VnL K P I S nv l3 l4) (hj : j < nv) (hR : RelR I (vX j) (vX j + 1) w M) (hw : w ≤ 10) (hM : M.length ≤ 512) (hb : 0 ≤ b ∧ b < M.length) (hc : 0 ≤ c ∧ c < w) : Sp m_F_viewAt true ({ frames := 12, cells := 0, slots := 0, locals := 400 } : Room) (ex K P J I (.inl (some (vI (I (vX j + 1) ((w : Int) * b + c)))))) K P J I [vR (some 1000), vI (j : Int), vI b, vI c] := by
  have hz : I 1512 2 = (nv : Int) := hL.1.1.2.2.2.1.1
  have hz2 : I 1544 2 = (nv : Int) := hL.1.2.2.2.2.1.1
  have hcp := hL.1.1.2.2.2.1.2.1
  have hcp2 := hL.1.2.2.2.2.1.2.1
  obtain ⟨el1, el2, hG⟩ := hL.2.2 j hj
  have spG := sp_java_util_ArrayList_get (J := J) (I := I) (i := (j : Int)) hL.1.2.1 (by rw [hz2]; omega) (by rw [hz2]; omega)
  rw [el2] at spG
  have spY := F_hasV1 (J := J) hC hz (a := (j : Int)) ⟨by omega, by omega⟩
  have spC := cellAt_run (J := J) hG hR hw hM hb hc
  refine Sp.ofV (by decide) (Or.inl rfl) rfl ?_
  refine VW.aload_n (pc' := 1) d_F_viewAt_0 rfl rfl ?_
  refine VW.iload_n (pc' := 2) d_F_viewAt_1 rfl rfl ?_
  refine VW.cV (ci := 10) (T := T10) (N := 11) (pc' := 5) d_F_viewAt_2 rfl mv_F_hasView lk_F_322 rfl (by first | exact hC.k 0 rfl | exact hC.k 55 rfl | exact hC.k 56 rfl | exact hC.k 26 rfl | exact hG.1 | exact hC.k 9 rfl) rfl rfl rfl (by decide) (by decide) (spY) rfl rfl ?_
  refine VW.callSX (pc' := 8) d_F_viewAt_5 rfl (sp_F_demandPlace1 (by decide)) rfl ms_F_demandPlace.1 ms_F_demandPlace.2.1 rfl ms_F_demandPlace.2.2 lk_F_97 rfl rfl rfl (by decide) (by decide) (fun _ _ _ _ _ hz => by cases hz.1) (fun r _ _ _ _ hz => ?_)
  obtain ⟨z1, z2, z3, z4, z5⟩ := hz
  cases z1
  replace z2 := z2.symm; replace z3 := z3.symm; replace z4 := z4.symm; replace z5 := z5.symm
  subst z2; subst z3; subst z4; subst z5
  refine VW.aload_n (pc' := 9) d_F_viewAt_8 rfl rfl ?_
  refine VW.gP (ci := 10) (T := T10) (N := 11) (k := 6) (k' := 6) (pc' := 12) d_F_viewAt_9 rfl lk_F_49 in10 rfl rfl rfl rfl (by first | exact hC.k 0 rfl | exact hC.k 55 rfl | exact hC.k 56 rfl | exact hC.k 26 rfl | exact hG.1 | exact hC.k 9 rfl) (by first | exact hC.p 1 rfl | exact hC.p 2 rfl | exact hC.p 5 rfl | exact hC.p 6 rfl | exact hC.p 7 rfl | exact hC.p 16 rfl | rfl) ?_
  refine VW.iload_n (pc' := 13) d_F_viewAt_12 rfl rfl ?_
  refine VW.cV (ci := 12) (T := T12) (N := 3) (pc' := 16) d_F_viewAt_13 rfl mv_java_util_ArrayList_get lk_F_270 rfl (by first | exact hC.k 0 rfl | exact hC.k 55 rfl | exact hC.k 56 rfl | exact hC.k 26 rfl | exact hG.1 | exact hC.k 9 rfl) rfl rfl rfl (by decide) (by decide) (spG) rfl rfl ?_
  refine VW.cast (ci := 5) (T := T5) (NN := 3) (pc' := 19) d_F_viewAt_16 rfl lk_F_52 rfl (by first | exact hC.k 0 rfl | exact hC.k 55 rfl | exact hC.k 56 rfl | exact hC.k 26 rfl | exact hG.1 | exact hC.k 9 rfl) ?_
  refine VW.iload_n (pc' := 20) d_F_viewAt_19 rfl rfl ?_
  refine VW.iload_n (pc' := 21) d_F_viewAt_20 rfl rfl ?_
  refine VW.callSX (pc' := 24) d_F_viewAt_21 rfl (spC) rfl ms_F_cellAt.1 ms_F_cellAt.2.1 rfl ms_F_cellAt.2.2 lk_F_287 rfl rfl rfl (by decide) (by decide) (fun _ _ _ _ _ hz => by cases hz.1) (fun r _ _ _ _ hz => ?_)
  obtain ⟨z1, z2, z3, z4, z5⟩ := hz
  cases z1
  replace z2 := z2.symm; replace z3 := z3.symm; replace z4 := z4.symm; replace z5 := z5.symm
  subst z2; subst z3; subst z4; subst z5
  exact VW.iret d_F_viewAt_24 rfl rfl (by decide) (by decide) ex_rf
theorem viewAt_no2 (hC : ClW K P) (hL : VnL K P I S nv l3 l4) (hj : j < nv) (hR : RelR I (vX j) (vX j + 1) w M) (h : ¬ ((0 ≤ b ∧ b < M.length) ∧ 0 ≤ c ∧ c < w)) : Sp m_F_viewAt true ({ frames := 12, cells := 1, slots := 6, locals := 400 } : Room) (ex K P J I (.inr eIOO)) K P J I [vR (some 1000), vI (j : Int), vI b, vI c] := by
  have hz : I 1512 2 = (nv : Int) := hL.1.1.2.2.2.1.1
  have hz2 : I 1544 2 = (nv : Int) := hL.1.2.2.2.2.1.1
  have hcp := hL.1.1.2.2.2.1.2.1
  have hcp2 := hL.1.2.2.2.2.1.2.1
  obtain ⟨el1, el2, hG⟩ := hL.2.2 j hj
  have spG := sp_java_util_ArrayList_get (J := J) (I := I) (i := (j : Int)) hL.1.2.1 (by rw [hz2]; omega) (by rw [hz2]; omega)
  rw [el2] at spG
  have spY := F_hasV1 (J := J) hC hz (a := (j : Int)) ⟨by omega, by omega⟩
  have spC := cellAt_no (J := J) hG hR h
  refine Sp.ofV (by decide) (Or.inl rfl) rfl ?_
  refine VW.aload_n (pc' := 1) d_F_viewAt_0 rfl rfl ?_
  refine VW.iload_n (pc' := 2) d_F_viewAt_1 rfl rfl ?_
  refine VW.cV (ci := 10) (T := T10) (N := 11) (pc' := 5) d_F_viewAt_2 rfl mv_F_hasView lk_F_322 rfl (by first | exact hC.k 0 rfl | exact hC.k 55 rfl | exact hC.k 56 rfl | exact hC.k 26 rfl | exact hG.1 | exact hC.k 9 rfl) rfl rfl rfl (by decide) (by decide) (spY) rfl rfl ?_
  refine VW.callSX (pc' := 8) d_F_viewAt_5 rfl (sp_F_demandPlace1 (by decide)) rfl ms_F_demandPlace.1 ms_F_demandPlace.2.1 rfl ms_F_demandPlace.2.2 lk_F_97 rfl rfl rfl (by decide) (by decide) (fun _ _ _ _ _ hz => by cases hz.1) (fun r _ _ _ _ hz => ?_)
  obtain ⟨z1, z2, z3, z4, z5⟩ := hz
  cases z1
  replace z2 := z2.symm; replace z3 := z3.symm; replace z4 := z4.symm; replace z5 := z5.symm
  subst z2; subst z3; subst z4; subst z5
  refine VW.aload_n (pc' := 9) d_F_viewAt_8 rfl rfl ?_
  refine VW.gP (ci := 10) (T := T10) (N := 11) (k := 6) (k' := 6) (pc' := 12) d_F_viewAt_9 rfl lk_F_49 in10 rfl rfl rfl rfl (by first | exact hC.k 0 rfl | exact hC.k 55 rfl | exact hC.k 56 rfl | exact hC.k 26 rfl | exact hG.1 | exact hC.k 9 rfl) (by first | exact hC.p 1 rfl | exact hC.p 2 rfl | exact hC.p 5 rfl | exact hC.p 6 rfl | exact hC.p 7 rfl | exact hC.p 16 rfl | rfl) ?_
  refine VW.iload_n (pc' := 13) d_F_viewAt_12 rfl rfl ?_
  refine VW.cV (ci := 12) (T := T12) (N := 3) (pc' := 16) d_F_viewAt_13 rfl mv_java_util_ArrayList_get lk_F_270 rfl (by first | exact hC.k 0 rfl | exact hC.k 55 rfl | exact hC.k 56 rfl | exact hC.k 26 rfl | exact hG.1 | exact hC.k 9 rfl) rfl rfl rfl (by decide) (by decide) (spG) rfl rfl ?_
  refine VW.cast (ci := 5) (T := T5) (NN := 3) (pc' := 19) d_F_viewAt_16 rfl lk_F_52 rfl (by first | exact hC.k 0 rfl | exact hC.k 55 rfl | exact hC.k 56 rfl | exact hC.k 26 rfl | exact hG.1 | exact hC.k 9 rfl) ?_
  refine VW.iload_n (pc' := 20) d_F_viewAt_19 rfl rfl ?_
  refine VW.iload_n (pc' := 21) d_F_viewAt_20 rfl rfl ?_
  refine VW.callSX (pc' := 24) d_F_viewAt_21 rfl (spC) rfl ms_F_cellAt.1 ms_F_cellAt.2.1 rfl ms_F_cellAt.2.2 lk_F_287 rfl rfl rfl (by decide) (by decide) (fun _ _ _ _ _ hz => ?_) (fun _ _ _ _ _ hz => by cases hz.1)
  obtain ⟨z1, z2, z3, z4, z5⟩ := hz
  cases z1
  replace z2 := z2.symm; replace z3 := z3.symm; replace z4 := z4.symm; replace z5 := z5.symm
  subst z2; subst z3; subst z4; subst z5
  exact Or.inl ⟨rfl, ex_rf⟩
  -- end
theorem at_run (hC : ClW K P) (hR : RelR I 1416 1417 w M) (hw : w ≤ 10) (hM : M.length ≤ 512) (hb : 0 ≤ b ∧ b < M.length) (hc : 0 ≤ c ∧ c < w) : Sp m_F_at true ({ frames := 12, cells := 0, slots := 0, locals := 400 } : Room) (ex K P J I (.inl (some (vI (I 1417 ((w : Int) * b + c)))))) K P J I [vR (some 1000), vI b, vI c] := by
  have hG : ReW K P 1416 1417 5120 := ⟨hC.k 51 rfl, hC.p 53 rfl, hC.k 52 rfl⟩
  have spC := cellAt_run (J := J) hG hR hw hM hb hc
  refine Sp.ofV (by decide) (Or.inl rfl) rfl ?_
  refine VW.aload_n (pc' := 1) d_F_at_0 rfl rfl ?_
  refine VW.gP (ci := 10) (T := T10) (N := 11) (k := 7) (k' := 7) (pc' := 4) d_F_at_1 rfl lk_F_55 in10 rfl rfl rfl rfl (by first | exact hC.k 0 rfl | exact hC.k 55 rfl | exact hC.k 56 rfl | exact hC.k 26 rfl | exact hG.1 | exact hC.k 9 rfl) (by first | exact hC.p 1 rfl | exact hC.p 2 rfl | exact hC.p 5 rfl | exact hC.p 6 rfl | exact hC.p 7 rfl | exact hC.p 16 rfl | rfl) ?_
  refine VW.iload_n (pc' := 5) d_F_at_4 rfl rfl ?_
  refine VW.iload_n (pc' := 6) d_F_at_5 rfl rfl ?_
  refine VW.callSX (pc' := 9) d_F_at_6 rfl (spC) rfl ms_F_cellAt.1 ms_F_cellAt.2.1 rfl ms_F_cellAt.2.2 lk_F_287 rfl rfl rfl (by decide) (by decide) (fun _ _ _ _ _ hz => by cases hz.1) (fun r _ _ _ _ hz => ?_)
  obtain ⟨z1, z2, z3, z4, z5⟩ := hz
  cases z1
  replace z2 := z2.symm; replace z3 := z3.symm; replace z4 := z4.symm; replace z5 := z5.symm
  subst z2; subst z3; subst z4; subst z5
  exact VW.iret d_F_at_9 rfl rfl (by decide) (by decide) ex_rf
theorem at_no (hC : ClW K P) (hR : RelR I 1416 1417 w M) (h : ¬ ((0 ≤ b ∧ b < M.length) ∧ 0 ≤ c ∧ c < w)) : Sp m_F_at true ({ frames := 12, cells := 1, slots := 6, locals := 400 } : Room) (ex K P J I (.inr eIOO)) K P J I [vR (some 1000), vI b, vI c] := by
  have hG : ReW K P 1416 1417 5120 := ⟨hC.k 51 rfl, hC.p 53 rfl, hC.k 52 rfl⟩
  have spC := cellAt_no (J := J) hG hR h
  refine Sp.ofV (by decide) (Or.inl rfl) rfl ?_
  refine VW.aload_n (pc' := 1) d_F_at_0 rfl rfl ?_
  refine VW.gP (ci := 10) (T := T10) (N := 11) (k := 7) (k' := 7) (pc' := 4) d_F_at_1 rfl lk_F_55 in10 rfl rfl rfl rfl (by first | exact hC.k 0 rfl | exact hC.k 55 rfl | exact hC.k 56 rfl | exact hC.k 26 rfl | exact hG.1 | exact hC.k 9 rfl) (by first | exact hC.p 1 rfl | exact hC.p 2 rfl | exact hC.p 5 rfl | exact hC.p 6 rfl | exact hC.p 7 rfl | exact hC.p 16 rfl | rfl) ?_
  refine VW.iload_n (pc' := 5) d_F_at_4 rfl rfl ?_
  refine VW.iload_n (pc' := 6) d_F_at_5 rfl rfl ?_
  refine VW.callSX (pc' := 9) d_F_at_6 rfl (spC) rfl ms_F_cellAt.1 ms_F_cellAt.2.1 rfl ms_F_cellAt.2.2 lk_F_287 rfl rfl rfl (by decide) (by decide) (fun _ _ _ _ _ hz => ?_) (fun _ _ _ _ _ hz => by cases hz.1)
  obtain ⟨z1, z2, z3, z4, z5⟩ := hz
  cases z1
  replace z2 := z2.symm; replace z3 := z3.symm; replace z4 := z4.symm; replace z5 := z5.symm
  subst z2; subst z3; subst z4; subst z5
  exact Or.inl ⟨rfl, ex_rf⟩
  -- end
theorem viewAnew_run {L M0 : List (List Int)} {F : Prop} (hC : ClW K P) (hEv : EvW K P) (hQL : QnL K P I nq lq) (hL : VnL K P I S nv l3 l4) (hj : j < nv) (hv : 0 ≤ S 269 j ∧ S 269 j < nq) (hF : ¬ F) (hM : M0.Perm L ∧ Ris M0) (hr : ∀ r ∈ L, r.length = w) (hw : w ≤ 10) (hl : L.length ≤ 512) (hb : 0 ≤ b ∧ b < M0.length) (hc : 0 ≤ c ∧ c < w)
    (sp : Sp m_Evaluator_evaluate false (rmv 7 280) (EvP K P J I F w L) K P J I [vR (some 1224), vR (some (qX (S 269 j).toNat)), vR (some 1160), vI 0]) : Sp m_F_viewAnew true ({ frames := 12, cells := 0, slots := 0, locals := 400 } : Room) (fun r' K' P' J' I' => (r' = .inl (some (vI (nth (M0.getD b.toNat []) c)))) ∧ K' = K ∧ J' = J ∧ EvW K P' ∧ (∀ o, ¬ nEv o → I' o = I o) ∧ (∀ o, o ≠ 1226 → P' o = P o) : PQ) K P J I [vR (some 1000), vI (j : Int), vI b, vI c] := by
  have hz : I 1512 2 = (nv : Int) := hL.1.1.2.2.2.1.1
  have hz2 : I 1544 2 = (nv : Int) := hL.1.2.2.2.2.1.1
  have hcp := hL.1.1.2.2.2.1.2.1
  have hcp2 := hL.1.2.2.2.2.1.2.1
  obtain ⟨el1, el2, hG⟩ := hL.2.2 j hj
  have spG := sp_java_util_ArrayList_get (J := J) (I := I) (i := (j : Int)) hL.1.1.1 (by rw [hz]; omega) (by rw [hz]; omega)
  rw [el1] at spG
  have spY := F_hasV1 (J := J) hC hz (a := (j : Int)) ⟨by omega, by omega⟩
  have hQ := (hQL.2.2 (S 269 j).toNat (by omega)).2
  refine Sp.ofV (by decide) (Or.inl rfl) rfl ?_
  refine VW.aload_n (pc' := 1) d_F_viewAnew_0 rfl rfl ?_
  refine VW.iload_n (pc' := 2) d_F_viewAnew_1 rfl rfl ?_
  refine VW.cV (ci := 10) (T := T10) (N := 11) (pc' := 5) d_F_viewAnew_2 rfl mv_F_hasView lk_F_322 rfl (by first | exact hC.k 0 rfl | exact hC.k 55 rfl | exact hC.k 56 rfl | exact hC.k 26 rfl | exact hG.1 | exact hC.k 9 rfl | exact hQ.k) rfl rfl rfl (by decide) (by decide) (spY) rfl rfl ?_
  refine VW.callSX (pc' := 8) d_F_viewAnew_5 rfl (sp_F_demandPlace1 (by decide)) rfl ms_F_demandPlace.1 ms_F_demandPlace.2.1 rfl ms_F_demandPlace.2.2 lk_F_97 rfl rfl rfl (by decide) (by decide) (fun _ _ _ _ _ hz => by cases hz.1) (fun r _ _ _ _ hz => ?_)
  obtain ⟨z1, z2, z3, z4, z5⟩ := hz
  cases z1
  replace z2 := z2.symm; replace z3 := z3.symm; replace z4 := z4.symm; replace z5 := z5.symm
  subst z2; subst z3; subst z4; subst z5
  refine VW.aload_n (pc' := 9) d_F_viewAnew_8 rfl rfl ?_
  refine VW.gP (ci := 10) (T := T10) (N := 11) (k := 2) (k' := 2) (pc' := 12) d_F_viewAnew_9 rfl lk_F_28 in10 rfl rfl rfl rfl (by first | exact hC.k 0 rfl | exact hC.k 55 rfl | exact hC.k 56 rfl | exact hC.k 26 rfl | exact hG.1 | exact hC.k 9 rfl | exact hQ.k) (by first | exact hC.p 1 rfl | exact hC.p 2 rfl | exact hC.p 5 rfl | exact hC.p 6 rfl | exact hC.p 7 rfl | exact hC.p 16 rfl | rfl) ?_
  refine VW.aload_n (pc' := 13) d_F_viewAnew_12 rfl rfl ?_
  refine VW.gP (ci := 10) (T := T10) (N := 11) (k := 5) (k' := 5) (pc' := 16) d_F_viewAnew_13 rfl lk_F_46 in10 rfl rfl rfl rfl (by first | exact hC.k 0 rfl | exact hC.k 55 rfl | exact hC.k 56 rfl | exact hC.k 26 rfl | exact hG.1 | exact hC.k 9 rfl | exact hQ.k) (by first | exact hC.p 1 rfl | exact hC.p 2 rfl | exact hC.p 5 rfl | exact hC.p 6 rfl | exact hC.p 7 rfl | exact hC.p 16 rfl | rfl) ?_
  refine VW.iload_n (pc' := 17) d_F_viewAnew_16 rfl rfl ?_
  refine VW.cV (ci := 12) (T := T12) (N := 3) (pc' := 20) d_F_viewAnew_17 rfl mv_java_util_ArrayList_get lk_F_270 rfl (by first | exact hC.k 0 rfl | exact hC.k 55 rfl | exact hC.k 56 rfl | exact hC.k 26 rfl | exact hG.1 | exact hC.k 9 rfl | exact hQ.k) rfl rfl rfl (by decide) (by decide) (spG) rfl rfl ?_
  refine VW.cast (ci := 4) (T := T4) (NN := 13) (pc' := 23) d_F_viewAnew_20 rfl lk_F_63 rfl (by first | exact hC.k 0 rfl | exact hC.k 55 rfl | exact hC.k 56 rfl | exact hC.k 26 rfl | exact hG.1 | exact hC.k 9 rfl | exact hQ.k) ?_
  refine VW.aload_n (pc' := 24) d_F_viewAnew_23 rfl rfl ?_
  refine VW.gP (ci := 10) (T := T10) (N := 11) (k := 1) (k' := 1) (pc' := 27) d_F_viewAnew_24 rfl lk_F_21 in10 rfl rfl rfl rfl (by first | exact hC.k 0 rfl | exact hC.k 55 rfl | exact hC.k 56 rfl | exact hC.k 26 rfl | exact hG.1 | exact hC.k 9 rfl | exact hQ.k) (by first | exact hC.p 1 rfl | exact hC.p 2 rfl | exact hC.p 5 rfl | exact hC.p 6 rfl | exact hC.p 7 rfl | exact hC.p 16 rfl | rfl) ?_
  refine VW.gP (ci := 0) (T := T0) (N := 8) (k := 1) (k' := 1) (pc' := 30) d_F_viewAnew_27 rfl lk_F_110 in0 rfl rfl rfl rfl (by first | exact hC.k 0 rfl | exact hC.k 55 rfl | exact hC.k 56 rfl | exact hC.k 26 rfl | exact hG.1 | exact hC.k 9 rfl | exact hQ.k) (by first | exact hC.p 1 rfl | exact hC.p 2 rfl | exact hC.p 5 rfl | exact hC.p 6 rfl | exact hC.p 7 rfl | exact hC.p 16 rfl | rfl) ?_
  refine VW.iconst (pc' := 31) d_F_viewAnew_30 rfl (by decide) ?_
  refine VW.cVq (ci := 1) (T := T1) (N := 7) (pc' := 34) d_F_viewAnew_31 rfl mv_Evaluator_evaluate lk_F_318 rfl (by first | exact hC.k 0 rfl | exact hC.k 55 rfl | exact hC.k 56 rfl | exact hC.k 26 rfl | exact hG.1 | exact hC.k 9 rfl | exact hQ.k) rfl rfl rfl (by decide) (by decide) (sp) rfl rfl (fun r9 K9 P9 J9 I9 hz9 => ?_)
  obtain ⟨y1, y2, y3, y4, y5, y6⟩ := hz9
  replace y1 := y1.symm; replace y2 := y2.symm
  subst y1; subst y2
  rcases y6 with ⟨fZ, -⟩ | ⟨-, eZ, M, g0, ⟨g1, g2, g3Z⟩, g4, g5Z, g6⟩
  · exact absurd fZ hF
  cases g0
  have em : M = M0 := ris_one (w := w) (g5Z.trans hM.1.symm) g6 hM.2 (fun r h => hr r (g5Z.mem_iff.mp h))
  subst em
  have mlZ : M.length = L.length := g5Z.length_eq
  have spC := cellAt_run (J := J) (I := I9) (b := b) (c := c) g3Z g4 hw (by omega) hb hc
  have ec := cell_nth g4 hb hc
  rw [ec] at spC
  have finZ : (fun r' K' P' J' I' => (r' = .inl (some (vI (nth (M.getD b.toNat []) c)))) ∧ K' = K ∧ J' = J ∧ EvW K P' ∧ (∀ o, ¬ nEv o → I' o = I o) ∧ (∀ o, o ≠ 1226 → P' o = P o) : PQ) (.inl (some (vI (nth (M.getD b.toNat []) c)))) K P9 J I9 := ⟨rfl, rfl, rfl, y3, y4, y5⟩
  refine VW.iload_n (pc' := 35) d_F_viewAnew_34 rfl rfl ?_
  refine VW.iload_n (pc' := 36) d_F_viewAnew_35 rfl rfl ?_
  refine VW.callSX (pc' := 39) d_F_viewAnew_36 rfl (spC) rfl ms_F_cellAt.1 ms_F_cellAt.2.1 rfl ms_F_cellAt.2.2 lk_F_287 rfl rfl rfl (by decide) (by decide) (fun _ _ _ _ _ hz => by cases hz.1) (fun r _ _ _ _ hz => ?_)
  obtain ⟨z1, z2, z3, z4, z5⟩ := hz
  cases z1
  replace z2 := z2.symm; replace z3 := z3.symm; replace z4 := z4.symm; replace z5 := z5.symm
  subst z2; subst z3; subst z4; subst z5
  exact VW.iret d_F_viewAnew_39 rfl rfl (by decide) (by decide) finZ
theorem viewAnew_no2 {L M0 : List (List Int)} {F : Prop} (hC : ClW K P) (hEv : EvW K P) (hQL : QnL K P I nq lq) (hL : VnL K P I S nv l3 l4) (hj : j < nv) (hv : 0 ≤ S 269 j ∧ S 269 j < nq) (hF : ¬ F) (hM : M0.Perm L ∧ Ris M0) (hr : ∀ r ∈ L, r.length = w) (h : ¬ ((0 ≤ b ∧ b < M0.length) ∧ 0 ≤ c ∧ c < w))
    (sp : Sp m_Evaluator_evaluate false (rmv 7 280) (EvP K P J I F w L) K P J I [vR (some 1224), vR (some (qX (S 269 j).toNat)), vR (some 1160), vI 0]) : Sp m_F_viewAnew true ({ frames := 12, cells := 1, slots := 6, locals := 400 } : Room) (fun r' K' P' J' I' => (r' = .inr eIOO) ∧ K' = K ∧ J' = J ∧ EvW K P' ∧ (∀ o, ¬ nEv o → I' o = I o) ∧ (∀ o, o ≠ 1226 → P' o = P o) : PQ) K P J I [vR (some 1000), vI (j : Int), vI b, vI c] := by
  have hz : I 1512 2 = (nv : Int) := hL.1.1.2.2.2.1.1
  have hz2 : I 1544 2 = (nv : Int) := hL.1.2.2.2.2.1.1
  have hcp := hL.1.1.2.2.2.1.2.1
  have hcp2 := hL.1.2.2.2.2.1.2.1
  obtain ⟨el1, el2, hG⟩ := hL.2.2 j hj
  have spG := sp_java_util_ArrayList_get (J := J) (I := I) (i := (j : Int)) hL.1.1.1 (by rw [hz]; omega) (by rw [hz]; omega)
  rw [el1] at spG
  have spY := F_hasV1 (J := J) hC hz (a := (j : Int)) ⟨by omega, by omega⟩
  have hQ := (hQL.2.2 (S 269 j).toNat (by omega)).2
  refine Sp.ofV (by decide) (Or.inl rfl) rfl ?_
  refine VW.aload_n (pc' := 1) d_F_viewAnew_0 rfl rfl ?_
  refine VW.iload_n (pc' := 2) d_F_viewAnew_1 rfl rfl ?_
  refine VW.cV (ci := 10) (T := T10) (N := 11) (pc' := 5) d_F_viewAnew_2 rfl mv_F_hasView lk_F_322 rfl (by first | exact hC.k 0 rfl | exact hC.k 55 rfl | exact hC.k 56 rfl | exact hC.k 26 rfl | exact hG.1 | exact hC.k 9 rfl | exact hQ.k) rfl rfl rfl (by decide) (by decide) (spY) rfl rfl ?_
  refine VW.callSX (pc' := 8) d_F_viewAnew_5 rfl (sp_F_demandPlace1 (by decide)) rfl ms_F_demandPlace.1 ms_F_demandPlace.2.1 rfl ms_F_demandPlace.2.2 lk_F_97 rfl rfl rfl (by decide) (by decide) (fun _ _ _ _ _ hz => by cases hz.1) (fun r _ _ _ _ hz => ?_)
  obtain ⟨z1, z2, z3, z4, z5⟩ := hz
  cases z1
  replace z2 := z2.symm; replace z3 := z3.symm; replace z4 := z4.symm; replace z5 := z5.symm
  subst z2; subst z3; subst z4; subst z5
  refine VW.aload_n (pc' := 9) d_F_viewAnew_8 rfl rfl ?_
  refine VW.gP (ci := 10) (T := T10) (N := 11) (k := 2) (k' := 2) (pc' := 12) d_F_viewAnew_9 rfl lk_F_28 in10 rfl rfl rfl rfl (by first | exact hC.k 0 rfl | exact hC.k 55 rfl | exact hC.k 56 rfl | exact hC.k 26 rfl | exact hG.1 | exact hC.k 9 rfl | exact hQ.k) (by first | exact hC.p 1 rfl | exact hC.p 2 rfl | exact hC.p 5 rfl | exact hC.p 6 rfl | exact hC.p 7 rfl | exact hC.p 16 rfl | rfl) ?_
  refine VW.aload_n (pc' := 13) d_F_viewAnew_12 rfl rfl ?_
  refine VW.gP (ci := 10) (T := T10) (N := 11) (k := 5) (k' := 5) (pc' := 16) d_F_viewAnew_13 rfl lk_F_46 in10 rfl rfl rfl rfl (by first | exact hC.k 0 rfl | exact hC.k 55 rfl | exact hC.k 56 rfl | exact hC.k 26 rfl | exact hG.1 | exact hC.k 9 rfl | exact hQ.k) (by first | exact hC.p 1 rfl | exact hC.p 2 rfl | exact hC.p 5 rfl | exact hC.p 6 rfl | exact hC.p 7 rfl | exact hC.p 16 rfl | rfl) ?_
  refine VW.iload_n (pc' := 17) d_F_viewAnew_16 rfl rfl ?_
  refine VW.cV (ci := 12) (T := T12) (N := 3) (pc' := 20) d_F_viewAnew_17 rfl mv_java_util_ArrayList_get lk_F_270 rfl (by first | exact hC.k 0 rfl | exact hC.k 55 rfl | exact hC.k 56 rfl | exact hC.k 26 rfl | exact hG.1 | exact hC.k 9 rfl | exact hQ.k) rfl rfl rfl (by decide) (by decide) (spG) rfl rfl ?_
  refine VW.cast (ci := 4) (T := T4) (NN := 13) (pc' := 23) d_F_viewAnew_20 rfl lk_F_63 rfl (by first | exact hC.k 0 rfl | exact hC.k 55 rfl | exact hC.k 56 rfl | exact hC.k 26 rfl | exact hG.1 | exact hC.k 9 rfl | exact hQ.k) ?_
  refine VW.aload_n (pc' := 24) d_F_viewAnew_23 rfl rfl ?_
  refine VW.gP (ci := 10) (T := T10) (N := 11) (k := 1) (k' := 1) (pc' := 27) d_F_viewAnew_24 rfl lk_F_21 in10 rfl rfl rfl rfl (by first | exact hC.k 0 rfl | exact hC.k 55 rfl | exact hC.k 56 rfl | exact hC.k 26 rfl | exact hG.1 | exact hC.k 9 rfl | exact hQ.k) (by first | exact hC.p 1 rfl | exact hC.p 2 rfl | exact hC.p 5 rfl | exact hC.p 6 rfl | exact hC.p 7 rfl | exact hC.p 16 rfl | rfl) ?_
  refine VW.gP (ci := 0) (T := T0) (N := 8) (k := 1) (k' := 1) (pc' := 30) d_F_viewAnew_27 rfl lk_F_110 in0 rfl rfl rfl rfl (by first | exact hC.k 0 rfl | exact hC.k 55 rfl | exact hC.k 56 rfl | exact hC.k 26 rfl | exact hG.1 | exact hC.k 9 rfl | exact hQ.k) (by first | exact hC.p 1 rfl | exact hC.p 2 rfl | exact hC.p 5 rfl | exact hC.p 6 rfl | exact hC.p 7 rfl | exact hC.p 16 rfl | rfl) ?_
  refine VW.iconst (pc' := 31) d_F_viewAnew_30 rfl (by decide) ?_
  refine VW.cVq (ci := 1) (T := T1) (N := 7) (pc' := 34) d_F_viewAnew_31 rfl mv_Evaluator_evaluate lk_F_318 rfl (by first | exact hC.k 0 rfl | exact hC.k 55 rfl | exact hC.k 56 rfl | exact hC.k 26 rfl | exact hG.1 | exact hC.k 9 rfl | exact hQ.k) rfl rfl rfl (by decide) (by decide) (sp) rfl rfl (fun r9 K9 P9 J9 I9 hz9 => ?_)
  obtain ⟨y1, y2, y3, y4, y5, y6⟩ := hz9
  replace y1 := y1.symm; replace y2 := y2.symm
  subst y1; subst y2
  rcases y6 with ⟨fZ, -⟩ | ⟨-, eZ, M, g0, ⟨g1, g2, g3Z⟩, g4, g5Z, g6⟩
  · exact absurd fZ hF
  cases g0
  have em : M = M0 := ris_one (w := w) (g5Z.trans hM.1.symm) g6 hM.2 (fun r h => hr r (g5Z.mem_iff.mp h))
  subst em
  have mlZ : M.length = L.length := g5Z.length_eq
  have spC := cellAt_no (J := J) (I := I9) (b := b) (c := c) g3Z g4 h
  have finZ : (fun r' K' P' J' I' => (r' = .inr eIOO) ∧ K' = K ∧ J' = J ∧ EvW K P' ∧ (∀ o, ¬ nEv o → I' o = I o) ∧ (∀ o, o ≠ 1226 → P' o = P o) : PQ) (.inr eIOO) K P9 J I9 := ⟨rfl, rfl, rfl, y3, y4, y5⟩
  refine VW.iload_n (pc' := 35) d_F_viewAnew_34 rfl rfl ?_
  refine VW.iload_n (pc' := 36) d_F_viewAnew_35 rfl rfl ?_
  refine VW.callSX (pc' := 39) d_F_viewAnew_36 rfl (spC) rfl ms_F_cellAt.1 ms_F_cellAt.2.1 rfl ms_F_cellAt.2.2 lk_F_287 rfl rfl rfl (by decide) (by decide) (fun _ _ _ _ _ hz => ?_) (fun _ _ _ _ _ hz => by cases hz.1)
  obtain ⟨z1, z2, z3, z4, z5⟩ := hz
  cases z1
  replace z2 := z2.symm; replace z3 := z3.symm; replace z4 := z4.symm; replace z5 := z5.symm
  subst z2; subst z3; subst z4; subst z5
  exact Or.inl ⟨rfl, finZ⟩
  -- end
end
