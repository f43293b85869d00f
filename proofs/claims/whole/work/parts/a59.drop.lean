section
variable {K : KT} {P : PT} {J I : IT}
def qX (j : Nat) : Nat := 10000 + 32 * j
/-- the queries: n of them -/
def QnL (K : KT) (P : PT) (I : IT) (n lq : Nat) : Prop := LsV K P I 1480 12200 lq n 4 ∧ n ≤ 20 ∧ ∀ j, j < n → P (ldn 12200 lq) (j : Int) = some (qX j) ∧ QuW K P (qX j)
/-- the plans of the first n are dropped -/
def dpI (I : IT) : Nat → IT
  | 0 => I
  | j + 1 => if I (qX j) 9 = 0 then dpI I j else up2 (dpI I j) (qX j) 9 0
theorem dpI_k {o : Nat} {z : Int} (hz : z ≠ 9 ∨ o < 10000) : ∀ j, dpI I j o z = I o z := by
  intro j
  induction j with
  | zero => rfl
  | succ j ih =>
    unfold dpI
    split
    · exact ih
    · refine (if_neg (fun q => ?_)).trans ih
      unfold qX at q
      omega
theorem dpI_q {q : Nat} {z : Int} : ∀ j, j ≤ q → dpI I j (qX q) z = I (qX q) z := by
  intro j
  induction j with
  | zero => intro _; rfl
  | succ j ih =>
    intro h
    unfold dpI
    split
    · exact ih (by omega)
    · exact (up2_o _ _ _ _ (by unfold qX; omega)).trans (ih (by omega))
noncomputable def dpN (I : IT) (n : Nat) : Int := cntI (fun j => I (qX j.toNat) 9 ≠ 0) n
theorem sp_F_dropPlans {n lq : Nat} (hC : ClW K P) (hL : QnL K P I n lq) : Sp m_F_dropPlans false (rmv 3 101) (ex K P J (dpI I n) (.inl (some (vI (dpN I n))))) K P J I [vR (some 1000)] := by
  refine Sp.ofV (by decide) (Or.inr rfl) rfl ?_
  have h20 := hL.2.1
  have hcp := hL.1.2.2.2.1.2.1
  have loop : ∀ (w j : Nat), j + w = n → VW m_F_dropPlans false (rmv 3 101) (ex K P J (dpI I n) (.inl (some (vI (dpN I n))))) K P J (dpI I j) 0 0 4 [(0, vR (some 1000)), (1, vI (dpN I j)), (2, vI (j : Int))] [] := by
    intro w
    induction w with
    | zero =>
      intro j hj
      have ej : j = n := by omega
      subst ej
      have hz : dpI I j 1480 2 = j := (dpI_k (Or.inl (by decide)) j).trans hL.1.2.2.2.1.1
      refine VW.iload_n (pc' := 5) d_F_dropPlans_4 rfl rfl ?_
      refine VW.aload_n (pc' := 6) d_F_dropPlans_5 rfl rfl ?_
      refine VW.gP (ci := 10) (T := T10) (N := 11) (k := 4) (k' := 4) (pc' := 9) d_F_dropPlans_6 rfl lk_F_42 in10 rfl rfl rfl rfl (by first | exact hC.k 0 rfl | exact hC.k 54 rfl) (by first | exact hC.p 4 rfl | rfl) ?_
      refine VW.cV (ci := 12) (T := T12) (N := 3) (pc' := 12) d_F_dropPlans_9 rfl mv_java_util_ArrayList_size lk_F_147 rfl (by first | exact hC.k 0 rfl | exact hC.k 54 rfl) rfl rfl rfl (Nat.le_refl _) (Nat.le_refl _) (sp_java_util_ArrayList_size (hC.k 54 rfl)) rfl rfl ?_
      rw [hz]
      refine VW.icmp_ge (tgt := 48) (pc' := 15) d_F_dropPlans_12 rfl rfl (fun c12 => ?_) (fun c12 => ?_)
      case refine_2 => exact absurd c12 (by omega)
      refine VW.iload_n (pc' := 49) d_F_dropPlans_48 rfl rfl ?_
      exact VW.iret d_F_dropPlans_49 rfl rfl (Nat.zero_le _) (Nat.zero_le _) ex_rf
    | succ w ih =>
      intro j hj
      have hj' : j < n := by omega
      have hz : dpI I j 1480 2 = n := (dpI_k (Or.inl (by decide)) j).trans hL.1.2.2.2.1.1
      have hel := (hL.2.2 j hj').1
      have hQ := (hL.2.2 j hj').2
      have h9 : dpI I j (qX j) 9 = I (qX j) 9 := dpI_q j (Nat.le_refl _)
      have cr := cntI_rg (fun j => I (qX j.toNat) 9 ≠ 0) j
      have dc : 0 ≤ dpN I j ∧ dpN I j ≤ j := cr
      have jt : ((j : Int)).toNat = j := Int.toNat_natCast j
      have n9 := ih (j + 1) (by omega)
      rw [show ((j + 1 : Nat) : Int) = (j : Int) + 1 by omega] at n9
      clear ih
      by_cases hc : I (qX j) 9 = 0
      · have e1 : dpI I (j + 1) = dpI I j := if_pos hc
        have e2 : dpN I (j + 1) = dpN I j := ((Int.add_zero _).symm.trans (cntI_no (g := fun j => I (qX j.toNat) 9 ≠ 0) (n := j) (by show ¬ (I (qX ((j : Int)).toNat) 9 ≠ 0); rw [jt]; exact fun z => z hc))).symm
        rw [e1, e2] at n9
        refine VW.iload_n (pc' := 5) d_F_dropPlans_4 rfl rfl ?_
        refine VW.aload_n (pc' := 6) d_F_dropPlans_5 rfl rfl ?_
        refine VW.gP (ci := 10) (T := T10) (N := 11) (k := 4) (k' := 4) (pc' := 9) d_F_dropPlans_6 rfl lk_F_42 in10 rfl rfl rfl rfl (by first | exact hC.k 0 rfl | exact hC.k 54 rfl | exact hQ.k) (by first | exact hC.p 4 rfl | exact h9 | rfl) ?_
        refine VW.cV (ci := 12) (T := T12) (N := 3) (pc' := 12) d_F_dropPlans_9 rfl mv_java_util_ArrayList_size lk_F_147 rfl (by first | exact hC.k 0 rfl | exact hC.k 54 rfl | exact hQ.k) rfl rfl rfl (Nat.le_refl _) (Nat.le_refl _) (sp_java_util_ArrayList_size (hC.k 54 rfl)) rfl rfl ?_
        rw [hz]
        refine VW.icmp_ge (tgt := 48) (pc' := 15) d_F_dropPlans_12 rfl rfl (fun c12 => ?_) (fun c12 => ?_)
        case refine_1 => exact absurd c12 (by omega)
        refine VW.aload_n (pc' := 16) d_F_dropPlans_15 rfl rfl ?_
        refine VW.gP (ci := 10) (T := T10) (N := 11) (k := 4) (k' := 4) (pc' := 19) d_F_dropPlans_16 rfl lk_F_42 in10 rfl rfl rfl rfl (by first | exact hC.k 0 rfl | exact hC.k 54 rfl | exact hQ.k) (by first | exact hC.p 4 rfl | exact h9 | rfl) ?_
        refine VW.iload_n (pc' := 20) d_F_dropPlans_19 rfl rfl ?_
        refine VW.cV (ci := 12) (T := T12) (N := 3) (pc' := 23) d_F_dropPlans_20 rfl mv_java_util_ArrayList_get lk_F_270 rfl (by first | exact hC.k 0 rfl | exact hC.k 54 rfl | exact hQ.k) rfl rfl rfl (Nat.le_refl _) (Nat.le_refl _) (sp_java_util_ArrayList_get (i := (j : Int)) hL.1.1 (by rw [hz]; omega) (by rw [hz]; omega)) rfl rfl ?_
        rw [hel]
        refine VW.cast (ci := 4) (T := T4) (NN := 13) (pc' := 26) d_F_dropPlans_23 rfl lk_F_63 rfl (by first | exact hC.k 0 rfl | exact hC.k 54 rfl | exact hQ.k) ?_
        refine VW.astore_n (pc' := 27) d_F_dropPlans_26 rfl rfl ?_
        refine VW.aload_n (pc' := 28) d_F_dropPlans_27 rfl rfl ?_
        refine VW.gI (ci := 4) (T := T4) (N := 13) (k := 9) (k' := 9) (pc' := 31) d_F_dropPlans_28 rfl lk_F_295 in4 rfl rfl rfl rfl (by first | exact hC.k 0 rfl | exact hC.k 54 rfl | exact hQ.k) (by first | exact hC.p 4 rfl | exact h9 | rfl) ?_
        refine VW.if_eq (tgt := 42) (pc' := 34) d_F_dropPlans_31 rfl rfl (fun c31 => ?_) (fun c31 => ?_)
        case refine_2 => exact absurd c31 (by omega)
        refine VW.iinc (pc' := 45) d_F_dropPlans_42 rfl rfl rfl (by omega) ?_
        refine VW.goto (pc' := 4) d_F_dropPlans_45 rfl ?_
        refine VW.pick [0, 1, 2] ?_
        exact n9
      · have e1 : dpI I (j + 1) = up2 (dpI I j) (qX j) 9 0 := if_neg hc
        have e2 : dpN I (j + 1) = dpN I j + 1 := (cntI_yes (g := fun j => I (qX j.toNat) 9 ≠ 0) (n := j) (by show I (qX ((j : Int)).toNat) 9 ≠ 0; rw [jt]; exact hc)).symm
        rw [e1, e2] at n9
        refine VW.iload_n (pc' := 5) d_F_dropPlans_4 rfl rfl ?_
        refine VW.aload_n (pc' := 6) d_F_dropPlans_5 rfl rfl ?_
        refine VW.gP (ci := 10) (T := T10) (N := 11) (k := 4) (k' := 4) (pc' := 9) d_F_dropPlans_6 rfl lk_F_42 in10 rfl rfl rfl rfl (by first | exact hC.k 0 rfl | exact hC.k 54 rfl | exact hQ.k) (by first | exact hC.p 4 rfl | exact h9 | rfl) ?_
        refine VW.cV (ci := 12) (T := T12) (N := 3) (pc' := 12) d_F_dropPlans_9 rfl mv_java_util_ArrayList_size lk_F_147 rfl (by first | exact hC.k 0 rfl | exact hC.k 54 rfl | exact hQ.k) rfl rfl rfl (Nat.le_refl _) (Nat.le_refl _) (sp_java_util_ArrayList_size (hC.k 54 rfl)) rfl rfl ?_
        rw [hz]
        refine VW.icmp_ge (tgt := 48) (pc' := 15) d_F_dropPlans_12 rfl rfl (fun c12 => ?_) (fun c12 => ?_)
        case refine_1 => exact absurd c12 (by omega)
        refine VW.aload_n (pc' := 16) d_F_dropPlans_15 rfl rfl ?_
        refine VW.gP (ci := 10) (T := T10) (N := 11) (k := 4) (k' := 4) (pc' := 19) d_F_dropPlans_16 rfl lk_F_42 in10 rfl rfl rfl rfl (by first | exact hC.k 0 rfl | exact hC.k 54 rfl | exact hQ.k) (by first | exact hC.p 4 rfl | exact h9 | rfl) ?_
        refine VW.iload_n (pc' := 20) d_F_dropPlans_19 rfl rfl ?_
        refine VW.cV (ci := 12) (T := T12) (N := 3) (pc' := 23) d_F_dropPlans_20 rfl mv_java_util_ArrayList_get lk_F_270 rfl (by first | exact hC.k 0 rfl | exact hC.k 54 rfl | exact hQ.k) rfl rfl rfl (Nat.le_refl _) (Nat.le_refl _) (sp_java_util_ArrayList_get (i := (j : Int)) hL.1.1 (by rw [hz]; omega) (by rw [hz]; omega)) rfl rfl ?_
        rw [hel]
        refine VW.cast (ci := 4) (T := T4) (NN := 13) (pc' := 26) d_F_dropPlans_23 rfl lk_F_63 rfl (by first | exact hC.k 0 rfl | exact hC.k 54 rfl | exact hQ.k) ?_
        refine VW.astore_n (pc' := 27) d_F_dropPlans_26 rfl rfl ?_
        refine VW.aload_n (pc' := 28) d_F_dropPlans_27 rfl rfl ?_
        refine VW.gI (ci := 4) (T := T4) (N := 13) (k := 9) (k' := 9) (pc' := 31) d_F_dropPlans_28 rfl lk_F_295 in4 rfl rfl rfl rfl (by first | exact hC.k 0 rfl | exact hC.k 54 rfl | exact hQ.k) (by first | exact hC.p 4 rfl | exact h9 | rfl) ?_
        refine VW.if_eq (tgt := 42) (pc' := 34) d_F_dropPlans_31 rfl rfl (fun c31 => ?_) (fun c31 => ?_)
        case refine_1 => exact absurd c31 (by omega)
        refine VW.aload_n (pc' := 35) d_F_dropPlans_34 rfl rfl ?_
        refine VW.iconst (pc' := 36) d_F_dropPlans_35 rfl (by decide) ?_
        refine VW.pZ (ci := 4) (T := T4) (N := 13) (k := 9) (k' := 9) (ty := ty4) (pc' := 39) d_F_dropPlans_36 rfl lk_F_295 in4 tk4 nm4 rfl rfl rfl rfl rfl rfl (by omega) (by first | exact hC.k 0 rfl | exact hC.k 54 rfl | exact hQ.k) ?_
        refine VW.iinc (pc' := 42) d_F_dropPlans_39 rfl rfl rfl (by omega) ?_
        refine VW.iinc (pc' := 45) d_F_dropPlans_42 rfl rfl rfl (by omega) ?_
        refine VW.goto (pc' := 4) d_F_dropPlans_45 rfl ?_
        refine VW.pick [0, 1, 2] ?_
        exact n9
  have l9 := loop n 0 (by omega)
  clear loop
  refine VW.iconst (pc' := 1) d_F_dropPlans_0 rfl (by decide) ?_
  refine VW.istore_n (pc' := 2) d_F_dropPlans_1 rfl rfl ?_
  refine VW.iconst (pc' := 3) d_F_dropPlans_2 rfl (by decide) ?_
  refine VW.istore_n (pc' := 4) d_F_dropPlans_3 rfl rfl ?_
  refine VW.pick [0, 1, 2] ?_
  exact l9
end
