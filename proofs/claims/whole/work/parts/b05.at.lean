/-! finding a transaction -/
section
variable {K : KT} {P : PT} {J I S : IT} {n N g lq : Nat} {lv mv : Nat → Nat} {a : Int}
def rmE0 : Room := { frames := 8, cells := 0, slots := 0, locals := 200 }
def rmE1 : Room := { frames := 8, cells := 1, slots := 6, locals := 200 }
theorem sp_F_transactionAt1 (hC : ClW K P) (hL : EnL K P I n lq lv mv) (h : 0 ≤ a ∧ a < n) : Sp m_F_transactionAt true rmE0 (ex K P J I (.inl (some (vR (some (tX a.toNat)))))) K P J I [vR (some 1000), vI a] := by
  have hz := hL.sz
  have hcp := hL.cp
  have el := hL.el (j := a.toNat) (by omega)
  rw [show ((a.toNat : Nat) : Int) = a by omega] at el
  have hx := (hL.tx (j := a.toNat) (by omega)).k
  have e1 : (1 : Int) ≠ 0 := by decide
  have spT : Sp m_Engine_hasTransaction false (rmv 1 20) (ex K P J I (.inl (some (vI 1)))) K P J I [vR (some 1064), vI a] := by
    have := sp_Engine_hasTransaction (J := J) hC hL (a := a)
    rw [bI1 h] at this
    exact this
  refine Sp.ofV (by decide) (Or.inl rfl) rfl ?_
  refine VW.aload_n (pc' := 1) d_F_transactionAt_0 rfl rfl ?_
  refine VW.gP (ci := 10) (T := T10) (N := 11) (k := 1) (k' := 1) (pc' := 4) d_F_transactionAt_1 rfl lk_F_21 in10 rfl rfl rfl rfl (by first | exact hC.k 0 rfl | exact hC.k 9 rfl | exact hC.k 53 rfl | exact hx) (by first | exact hC.p 1 rfl | exact hC.p 17 rfl | rfl) ?_
  refine VW.iload_n (pc' := 5) d_F_transactionAt_4 rfl rfl ?_
  refine VW.cV (ci := 0) (T := T0) (N := 8) (pc' := 8) d_F_transactionAt_5 rfl mv_Engine_hasTransaction lk_F_157 rfl (by first | exact hC.k 0 rfl | exact hC.k 9 rfl | exact hC.k 53 rfl | exact hx) rfl rfl rfl (by decide) (by decide) (spT) rfl rfl ?_
  refine VW.callSX (pc' := 11) d_F_transactionAt_8 rfl (sp_F_demandPlace1 (by decide)) rfl ms_F_demandPlace.1 ms_F_demandPlace.2.1 rfl ms_F_demandPlace.2.2 lk_F_97 rfl rfl rfl (Nat.le_refl _) (Nat.le_refl _) (fun _ _ _ _ _ hz => by cases hz.1) (fun r _ _ _ _ hz => ?_)
  obtain ⟨z1, z2, z3, z4, z5⟩ := hz
  cases z1; subst z2; subst z3; subst z4; subst z5
  refine VW.aload_n (pc' := 12) d_F_transactionAt_11 rfl rfl ?_
  refine VW.gP (ci := 10) (T := T10) (N := 11) (k := 1) (k' := 1) (pc' := 15) d_F_transactionAt_12 rfl lk_F_21 in10 rfl rfl rfl rfl (by first | exact hC.k 0 rfl | exact hC.k 9 rfl | exact hC.k 53 rfl | exact hx) (by first | exact hC.p 1 rfl | exact hC.p 17 rfl | rfl) ?_
  refine VW.gP (ci := 0) (T := T0) (N := 8) (k := 2) (k' := 2) (pc' := 18) d_F_transactionAt_15 rfl lk_F_144 in0 rfl rfl rfl rfl (by first | exact hC.k 0 rfl | exact hC.k 9 rfl | exact hC.k 53 rfl | exact hx) (by first | exact hC.p 1 rfl | exact hC.p 17 rfl | rfl) ?_
  refine VW.iload_n (pc' := 19) d_F_transactionAt_18 rfl rfl ?_
  refine VW.cV (ci := 12) (T := T12) (N := 3) (pc' := 22) d_F_transactionAt_19 rfl mv_java_util_ArrayList_get lk_F_270 rfl (by first | exact hC.k 0 rfl | exact hC.k 9 rfl | exact hC.k 53 rfl | exact hx) rfl rfl rfl (by decide) (by decide) (sp_java_util_ArrayList_get (i := a) hL.al (by rw [hz]; omega) (by rw [hz]; omega)) rfl rfl ?_
  rw [el]
  refine VW.cast (ci := 8) (T := T8) (NN := 19) (pc' := 25) d_F_transactionAt_22 rfl lk_F_168 rfl (by first | exact hC.k 0 rfl | exact hC.k 9 rfl | exact hC.k 53 rfl | exact hx) ?_
  exact VW.aret d_F_transactionAt_25 rfl (by first | exact Or.inl ⟨_, rfl⟩ | exact Or.inr ⟨_, rfl⟩) (by decide) (by decide) ex_rf
theorem sp_F_transactionAt0 (hC : ClW K P) (hL : EnL K P I n lq lv mv) (h : ¬ (0 ≤ a ∧ a < n)) : Sp m_F_transactionAt true rmE1 (ex K P J I (.inr eIOO)) K P J I [vR (some 1000), vI a] := by
  have hz := hL.sz
  have hcp := hL.cp
  have spT : Sp m_Engine_hasTransaction false (rmv 1 20) (ex K P J I (.inl (some (vI 0)))) K P J I [vR (some 1064), vI a] := by
    have := sp_Engine_hasTransaction (J := J) hC hL (a := a)
    rw [bI0 h] at this
    exact this
  refine Sp.ofV (by decide) (Or.inl rfl) rfl ?_
  refine VW.aload_n (pc' := 1) d_F_transactionAt_0 rfl rfl ?_
  refine VW.gP (ci := 10) (T := T10) (N := 11) (k := 1) (k' := 1) (pc' := 4) d_F_transactionAt_1 rfl lk_F_21 in10 rfl rfl rfl rfl (by first | exact hC.k 0 rfl | exact hC.k 9 rfl | exact hC.k 53 rfl | exact hx) (by first | exact hC.p 1 rfl | exact hC.p 17 rfl | rfl) ?_
  refine VW.iload_n (pc' := 5) d_F_transactionAt_4 rfl rfl ?_
  refine VW.cV (ci := 0) (T := T0) (N := 8) (pc' := 8) d_F_transactionAt_5 rfl mv_Engine_hasTransaction lk_F_157 rfl (by first | exact hC.k 0 rfl | exact hC.k 9 rfl | exact hC.k 53 rfl | exact hx) rfl rfl rfl (by decide) (by decide) (spT) rfl rfl ?_
  refine VW.callSX (pc' := 11) d_F_transactionAt_8 rfl (sp_F_demandPlace0) rfl ms_F_demandPlace.1 ms_F_demandPlace.2.1 rfl ms_F_demandPlace.2.2 lk_F_97 rfl rfl rfl (by decide) (by decide) (fun _ _ _ _ _ hz => ?_) (fun _ _ _ _ _ hz => by cases hz.1)
  obtain ⟨z1, z2, z3, z4, z5⟩ := hz
  cases z1; subst z2; subst z3; subst z4; subst z5
  exact Or.inl ⟨rfl, ex_rf⟩
end
