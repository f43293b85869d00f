/-! what the log alone tells -/
section
variable {K : KT} {P : PT} {J I : IT} {t y c : Int}
theorem committedByLog_run {d w e m : Nat} (hC : ClW K P) (hG : LgW K P 1192 d w e m) (hB : LgB I 1192 d w) (h6 : I 1032 0 ≤ 6) (hc : (0 ≤ t ∧ t < I 1032 0) ∧ 0 ≤ c ∧ c < I 1034 t) (h4 : I 1034 t ≤ 4) : Sp m_F_committedByLog true ({ frames := 12, cells := 0, slots := 0, locals := 400 } : Room) (ex K P J (lgCom d e (I 1192 0).toNat 0 (filI I e 0 60 0)) (.inl (some (vI (lgLst (lgCom d e (I 1192 0).toNat 0 (filI I e 0 60 0)) d e t y c (I 1192 0).toNat))))) K P J I [vR (some 1000), vI t, vI y, vI c] := by
  have spB : Sp m_Schema_hasColumn false (rmv 1 21) (ex K P J I (.inl (some (vI 1)))) K P J I [vR (some 1032), vI t, vI c] := by
    have := sp_Schema_hasColumn (J := J) (I := I) (a := t) (b := c) hC.sc h6
    rw [bI1 hc] at this
    exact this
  have spR := sp_Log_lastCommittedCell (J := J) (t := t) (y := y) (q := c) hG hB ⟨hc.2.1, by omega⟩
  refine Sp.ofV (by decide) (Or.inl rfl) rfl ?_
  refine VW.aload_n (pc' := 1) d_F_committedByLog_0 rfl rfl ?_
  refine VW.gP (ci := 10) (T := T10) (N := 11) (k := 0) (k' := 0) (pc' := 4) d_F_committedByLog_1 rfl lk_F_12 in10 rfl rfl rfl rfl (by first | exact hC.k 0 rfl | exact hC.k 9 rfl | exact hC.k 2 rfl | exact hC.k 3 rfl | exact hC.k 1 rfl | exact hx | exact hr | exact hG.1 | exact hC.st.1) (by first | exact hC.p 1 rfl | exact hC.p 0 rfl | exact hC.p 9 rfl | exact hC.p 8 rfl | exact hC.p 16 rfl | exact hC.p 18 rfl | exact hpr | exact e9 | exact e10 | rfl) ?_
  refine VW.iload_n (pc' := 5) d_F_committedByLog_4 rfl rfl ?_
  refine VW.iload_n (pc' := 6) d_F_committedByLog_5 rfl rfl ?_
  refine VW.cV (ci := 7) (T := T7) (N := 8) (pc' := 9) d_F_committedByLog_6 rfl mv_Schema_hasColumn lk_F_93 rfl (by first | exact hC.k 0 rfl | exact hC.k 9 rfl | exact hC.k 2 rfl | exact hC.k 3 rfl | exact hC.k 1 rfl | exact hx | exact hr | exact hG.1 | exact hC.st.1) rfl rfl rfl (by decide) (by decide) (spB) rfl rfl ?_
  refine VW.callSX (pc' := 12) d_F_committedByLog_9 rfl (sp_F_demandPlace1 (by decide)) rfl ms_F_demandPlace.1 ms_F_demandPlace.2.1 rfl ms_F_demandPlace.2.2 lk_F_97 rfl rfl rfl (by decide) (by decide) (fun _ _ _ _ _ hz => by cases hz.1) (fun r _ _ _ _ hz => ?_)
  obtain ⟨z1, z2, z3, z4, z5⟩ := hz
  cases z1
  replace z2 := z2.symm; replace z3 := z3.symm; replace z4 := z4.symm; replace z5 := z5.symm
  subst z2; subst z3; subst z4; subst z5
  refine VW.aload_n (pc' := 13) d_F_committedByLog_12 rfl rfl ?_
  refine VW.gP (ci := 10) (T := T10) (N := 11) (k := 1) (k' := 1) (pc' := 16) d_F_committedByLog_13 rfl lk_F_21 in10 rfl rfl rfl rfl (by first | exact hC.k 0 rfl | exact hC.k 9 rfl | exact hC.k 2 rfl | exact hC.k 3 rfl | exact hC.k 1 rfl | exact hx | exact hr | exact hG.1 | exact hC.st.1) (by first | exact hC.p 1 rfl | exact hC.p 0 rfl | exact hC.p 9 rfl | exact hC.p 8 rfl | exact hC.p 16 rfl | exact hC.p 18 rfl | exact hpr | exact e9 | exact e10 | rfl) ?_
  refine VW.gP (ci := 0) (T := T0) (N := 8) (k := 3) (k' := 3) (pc' := 19) d_F_committedByLog_16 rfl lk_F_219 in0 rfl rfl rfl rfl (by first | exact hC.k 0 rfl | exact hC.k 9 rfl | exact hC.k 2 rfl | exact hC.k 3 rfl | exact hC.k 1 rfl | exact hx | exact hr | exact hG.1 | exact hC.st.1) (by first | exact hC.p 1 rfl | exact hC.p 0 rfl | exact hC.p 9 rfl | exact hC.p 8 rfl | exact hC.p 16 rfl | exact hC.p 18 rfl | exact hpr | exact e9 | exact e10 | rfl) ?_
  refine VW.iload_n (pc' := 20) d_F_committedByLog_19 rfl rfl ?_
  refine VW.iload_n (pc' := 21) d_F_committedByLog_20 rfl rfl ?_
  refine VW.iload_n (pc' := 22) d_F_committedByLog_21 rfl rfl ?_
  refine VW.cV (ci := 2) (T := T2) (N := 5) (pc' := 25) d_F_committedByLog_22 rfl mv_Log_lastCommittedCell lk_F_223 rfl (by first | exact hC.k 0 rfl | exact hC.k 9 rfl | exact hC.k 2 rfl | exact hC.k 3 rfl | exact hC.k 1 rfl | exact hx | exact hr | exact hG.1 | exact hC.st.1) rfl rfl rfl (by decide) (by decide) (spR) rfl rfl ?_
  exact VW.iret d_F_committedByLog_25 rfl rfl (by decide) (by decide) ex_rf
/-- the log's numbers are in order -/
theorem ER.lgB {S : IT} {n N g : Nat} {lv mv : Nat → Nat} {q : Int} (h : ER I S n N g lv mv q) (hL : LgN I g N) (hg : g < 10) : LgB I 1192 (12000 + g) (512 * 2 ^ g) := by
  have : (2 : Nat) ^ g ≤ 2 ^ 9 := Nat.pow_le_pow_right (by decide) (by omega)
  have h16 := h.cnt.2.2.2
  refine ⟨⟨by rw [hL.1]; omega, by rw [hL.1]; have := hL.2; omega, by omega⟩, fun k k0 k1 hk => h.lgR k k0 (by rw [← hL.1]; exact k1) hk⟩
end
