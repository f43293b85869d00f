/-! the planner's plan; RowForge.prepare, planAt -/
section
variable {K : KT} {P : PT} {J I I' : IT} {q n m nl top nq lqq y : Nat} {x c a : Int}
/-- what the steps of a plan leave -/
noncomputable def pl1 (I : IT) (q top n : Nat) : IT := dlL (rcI I q top) q n
noncomputable def pl2 (I : IT) (q top n : Nat) : IT := afL (pl1 I q top n) q top
noncomputable def pl3 (I : IT) (q top n : Nat) : IT := gjL (pl2 I q top n) q (top + 1)
noncomputable def pl4 (I : IT) (q top n nl m : Nat) : IT := chZ (pl3 I q top n) q nl m (nl ^ nl)
noncomputable def plI (I : IT) (q top n nl m : Nat) : IT := up2 (pl4 I q top n nl m) 1384 13 (pl4 I q top n nl m 1384 13 + 1)
def PlOK (I : IT) (q top n nl m : Nat) : Prop := (top < n ∧ n ≤ 12 ∧ I q 0 = n) ∧ RcOK I q (top + 1) ∧ DlOK (rcI I q top) q n ∧ AfOK (pl1 I q top n) q top ∧ GjOK (pl2 I q top n) q (top + 1) ∧ CtOK (pl3 I q top n) nl m
theorem rcL_o {o : Nat} (h : o ≠ 1387) (h2 : o ≠ 1388) : ∀ (k : Nat) (S : IT), rcL q k S o = S o := by
  intro k
  induction k with
  | zero => exact fun _ => rfl
  | succ k ihZ =>
    intro S
    have eZ : rcL q (k + 1) S = rcL q k (if S 1387 k ≠ 0 ∧ bI (quBlk S q k) = 1 then rcO S q k else S) := rfl
    rw [eZ, ihZ]
    split
    · exact rcO_o h h2
    · rfl
theorem rcI_o {o : Nat} (h : o ≠ 1387) (h2 : o ≠ 1388) : rcI I q top o = I o := by
  unfold rcI
  rw [rcL_o h h2]
  funext z
  rw [up2_o _ _ _ _ h2, up2_o _ _ _ _ h, filI_fr h]
theorem dlL_k {S : IT} {z : Int} (h : z ≠ 4) : ∀ k, dlL S q k 1384 z = S 1384 z := by
  intro k
  induction k with
  | zero => exact up2_k _ _ _ _ h
  | succ k ihZ =>
    by_cases y : dlS (dlL S q k) q k
    · rw [dlL_yes y]
      unfold dlO
      rw [up2_k _ _ _ _ h, dcE_o (by decide) (by decide), up2_o _ _ _ _ (by decide), up2_o _ _ _ _ (by decide)]
      exact ihZ
    · rw [dlL_no y]; exact ihZ
theorem pl4_13 (hq : 10000 ≤ q) : pl4 I q top n nl m 1384 13 = I 1384 13 := by
  unfold pl4 pl3 pl2 pl1
  rw [chZ_o (by omega) (by omega) (by decide), gjL_k (by decide), afL_o (by decide), dlL_k (by decide), rcI_o (by decide) (by decide)]
theorem sp_plan1 (hC : ClW K P) (hQ : QuW K P q) (hn : I q 0 = (n : Int) + 1) (h12 : n < 12) (ht : tpR I q n = -1) : Sp m_Planner_plan false (rmv 6 260) (ex K P J I (.inl none)) K P J I [vR (some 1384), vR (some q)] := by
  have spT := sp_Planner_topOfBlock (K := K) (P := P) (J := J) (I := I) hQ hn h12
  rw [ht] at spT
  refine Sp.ofV (by decide) (Or.inr rfl) rfl ?_
  refine VW.aload_n (pc' := 1) d_Planner_plan_0 rfl rfl ?_
  refine VW.cS (pc' := 4) d_Planner_plan_1 rfl ms_Planner_topOfBlock lk_Planner_72 rfl rfl rfl (Nat.le_refl _) (Nat.le_refl _) (spT) rfl rfl ?_
  refine VW.istore_n (pc' := 5) d_Planner_plan_4 rfl rfl ?_
  refine VW.iload_n (pc' := 6) d_Planner_plan_5 rfl rfl ?_
  refine VW.iconst (pc' := 7) d_Planner_plan_6 rfl (by decide) ?_
  refine VW.icmp_ne (tgt := 11) (pc' := 10) d_Planner_plan_7 rfl rfl (fun c7 => ?_) (fun c7 => ?_)
  case refine_1 => exact absurd c7 (by omega)
  exact VW.vret d_Planner_plan_10 rfl (Nat.zero_le _) (Nat.zero_le _) ex_rf
theorem sp_plan2 (hC : ClW K P) (hQ : QuW K P q) (hq : 10000 ≤ q) (ht : tpR I q (n - 1) = top) (hk : PlOK I q top n nl m) (hf : 0 ≤ I 1384 13 ∧ I 1384 13 ≤ 100000) : Sp m_Planner_plan false (rmv 6 260) (ex K P J (plI I q top n nl m) (.inl none)) K P J I [vR (some 1384), vR (some q)] := by
  obtain ⟨⟨tnZ, n12, hn⟩, k1Z, k2Z, k3Z, k4Z, k5Z⟩ := hk
  have spT := sp_Planner_topOfBlock (K := K) (P := P) (J := J) (I := I) (n := n - 1) hQ (by omega) (by omega)
  rw [ht] at spT
  have sp1 := sp_Planner_reach (J := J) hC hQ hq (by omega : top < 12) k1Z
  have n1Z : rcI I q top q 0 = n := by rw [rcI_o (by omega) (by omega)]; exact hn
  have sp2 := sp_Planner_describeLeaves (J := J) (n := n) hC hQ hq n1Z n12 k2Z
  have sp3 := sp_Planner_applyFilters (J := J) (n := top) hC hQ hq (by omega) k3Z
  have sp4 := sp_Planner_gatherJoins (J := J) (top := top) hC hQ hq (by omega) k4Z
  have sp5 := sp_Planner_chooseOrder (J := J) hC hQ hq k5Z
  have pf : pl4 I q top n nl m 1384 13 = I 1384 13 := pl4_13 hq
  have e3Z : gjL (afL (dlL (rcI I q top) q n) q top) q (top + 1) = pl3 I q top n := rfl
  have e4Z : chZ (pl3 I q top n) q nl m (nl ^ nl) = pl4 I q top n nl m := rfl
  rw [e4Z] at sp5
  have e2Z : afL (pl1 I q top n) q top = pl2 I q top n := rfl
  have e1Z : dlL (rcI I q top) q n = pl1 I q top n := rfl
  have e5Z : gjL (pl2 I q top n) q (top + 1) = pl3 I q top n := rfl
  rw [e1Z] at sp2
  rw [e2Z] at sp3
  rw [e5Z] at sp4
  refine Sp.ofV (by decide) (Or.inr rfl) rfl ?_
  refine VW.aload_n (pc' := 1) d_Planner_plan_0 rfl rfl ?_
  refine VW.cS (pc' := 4) d_Planner_plan_1 rfl ms_Planner_topOfBlock lk_Planner_72 rfl rfl rfl (Nat.le_refl _) (Nat.le_refl _) (spT) rfl rfl ?_
  refine VW.istore_n (pc' := 5) d_Planner_plan_4 rfl rfl ?_
  refine VW.iload_n (pc' := 6) d_Planner_plan_5 rfl rfl ?_
  refine VW.iconst (pc' := 7) d_Planner_plan_6 rfl (by decide) ?_
  refine VW.icmp_ne (tgt := 11) (pc' := 10) d_Planner_plan_7 rfl rfl (fun c7 => ?_) (fun c7 => ?_)
  · refine VW.aload_n (pc' := 12) d_Planner_plan_11 rfl rfl ?_
    refine VW.aload_n (pc' := 13) d_Planner_plan_12 rfl rfl ?_
    refine VW.iload_n (pc' := 14) d_Planner_plan_13 rfl rfl ?_
    refine VW.cV (ci := 3) (T := T3) (N := 14) (pc' := 17) d_Planner_plan_14 rfl mv_Planner_reach lk_Planner_76 rfl (by first | exact hC.k 39 rfl | exact hQ.k) rfl rfl rfl (Nat.le_refl _) (Nat.le_refl _) (sp1) rfl rfl ?_
    refine VW.aload_n (pc' := 18) d_Planner_plan_17 rfl rfl ?_
    refine VW.aload_n (pc' := 19) d_Planner_plan_18 rfl rfl ?_
    refine VW.cV (ci := 3) (T := T3) (N := 14) (pc' := 22) d_Planner_plan_19 rfl mv_Planner_describeLeaves lk_Planner_80 rfl (by first | exact hC.k 39 rfl | exact hQ.k) rfl rfl rfl (Nat.le_refl _) (Nat.le_refl _) (sp2) rfl rfl ?_
    refine VW.aload_n (pc' := 23) d_Planner_plan_22 rfl rfl ?_
    refine VW.aload_n (pc' := 24) d_Planner_plan_23 rfl rfl ?_
    refine VW.iload_n (pc' := 25) d_Planner_plan_24 rfl rfl ?_
    refine VW.cV (ci := 3) (T := T3) (N := 14) (pc' := 28) d_Planner_plan_25 rfl mv_Planner_applyFilters lk_Planner_84 rfl (by first | exact hC.k 39 rfl | exact hQ.k) rfl rfl rfl (Nat.le_refl _) (Nat.le_refl _) (sp3) rfl rfl ?_
    refine VW.aload_n (pc' := 29) d_Planner_plan_28 rfl rfl ?_
    refine VW.aload_n (pc' := 30) d_Planner_plan_29 rfl rfl ?_
    refine VW.iload_n (pc' := 31) d_Planner_plan_30 rfl rfl ?_
    refine VW.cV (ci := 3) (T := T3) (N := 14) (pc' := 34) d_Planner_plan_31 rfl mv_Planner_gatherJoins lk_Planner_87 rfl (by first | exact hC.k 39 rfl | exact hQ.k) rfl rfl rfl (Nat.le_refl _) (Nat.le_refl _) (sp4) rfl rfl ?_
    refine VW.aload_n (pc' := 35) d_Planner_plan_34 rfl rfl ?_
    refine VW.aload_n (pc' := 36) d_Planner_plan_35 rfl rfl ?_
    refine VW.cV (ci := 3) (T := T3) (N := 14) (pc' := 39) d_Planner_plan_36 rfl mv_Planner_chooseOrder lk_Planner_90 rfl (by first | exact hC.k 39 rfl | exact hQ.k) rfl rfl rfl (Nat.le_refl _) (Nat.le_refl _) (sp5) rfl rfl ?_
    refine VW.aload_n (pc' := 40) d_Planner_plan_39 rfl rfl ?_
    refine VW.dup (pc' := 41) d_Planner_plan_40 rfl rfl ?_
    refine VW.gI (ci := 3) (T := T3) (N := 14) (k := 13) (k' := 13) (pc' := 44) d_Planner_plan_41 rfl lk_Planner_93 in3 rfl rfl rfl rfl (by first | exact hC.k 39 rfl | exact hQ.k) (rfl) ?_
    refine VW.iconst (pc' := 45) d_Planner_plan_44 rfl (by decide) ?_
    refine VW.iadd (pc' := 46) d_Planner_plan_45 rfl (by first | omega | (rw [pf]; constructor <;> omega)) ?_
    refine VW.pI (ci := 3) (T := T3) (N := 14) (k := 13) (k' := 13) (ty := ty3) (pc' := 49) d_Planner_plan_46 rfl lk_Planner_93 in3 tk3 nm3 rfl rfl rfl rfl rfl rfl (by first | exact hC.k 39 rfl | exact hQ.k) ?_
    exact VW.vret d_Planner_plan_49 rfl (Nat.zero_le _) (Nat.zero_le _) ex_rf
  · exfalso; omega
theorem prepare_had (hC : ClW K P) (hL : QnL K P I nq lqq) (hy : y < nq) (h9 : I (qX y) 9 ≠ 0) : Sp m_F_prepare true ({ frames := 12, cells := 0, slots := 0, locals := 400 } : Room) (ex K P J I (.inl (some (vI (I (qX y) 10))))) K P J I [vR (some 1000), vI (y : Int)] := by
  have hQ := (hL.2.2 y hy).2
  have hz : I 1480 2 = (nq : Int) := hL.1.2.2.2.1.1
  have hcp := hL.1.2.2.2.1.2.1
  have el := (hL.2.2 y hy).1
  have spG := sp_java_util_ArrayList_get (J := J) (I := I) (i := (y : Int)) hL.1.1 (by rw [hz]; omega) (by rw [hz]; omega)
  rw [el] at spG
  have spY := F_hasQ1 (J := J) hC hz (a := (y : Int)) ⟨by omega, by omega⟩
  refine Sp.ofV (by decide) (Or.inl rfl) rfl ?_
  refine VW.aload_n (pc' := 1) d_F_prepare_0 rfl rfl ?_
  refine VW.iload_n (pc' := 2) d_F_prepare_1 rfl rfl ?_
  refine VW.cV (ci := 10) (T := T10) (N := 11) (pc' := 5) d_F_prepare_2 rfl mv_F_hasQuery lk_F_267 rfl (by first | exact hC.k 0 rfl | exact hC.k 54 rfl | exact hC.k 39 rfl | exact hQ.k | exact hQ.k12) rfl rfl rfl (by decide) (by decide) (spY) rfl rfl ?_
  refine VW.callSX (pc' := 8) d_F_prepare_5 rfl (sp_F_demandPlace1 (by decide)) rfl ms_F_demandPlace.1 ms_F_demandPlace.2.1 rfl ms_F_demandPlace.2.2 lk_F_97 rfl rfl rfl (by decide) (by decide) (fun _ _ _ _ _ hz => by cases hz.1) (fun r _ _ _ _ hz => ?_)
  obtain ⟨z1, z2, z3, z4, z5⟩ := hz
  cases z1
  replace z2 := z2.symm; replace z3 := z3.symm; replace z4 := z4.symm; replace z5 := z5.symm
  subst z2; subst z3; subst z4; subst z5
  refine VW.aload_n (pc' := 9) d_F_prepare_8 rfl rfl ?_
  refine VW.gP (ci := 10) (T := T10) (N := 11) (k := 4) (k' := 4) (pc' := 12) d_F_prepare_9 rfl lk_F_42 in10 rfl rfl rfl rfl (by first | exact hC.k 0 rfl | exact hC.k 54 rfl | exact hC.k 39 rfl | exact hQ.k | exact hQ.k12) (by first | exact hC.p 4 rfl | exact hC.p 3 rfl | exact hQ.p12 | rfl) ?_
  refine VW.iload_n (pc' := 13) d_F_prepare_12 rfl rfl ?_
  refine VW.cV (ci := 12) (T := T12) (N := 3) (pc' := 16) d_F_prepare_13 rfl mv_java_util_ArrayList_get lk_F_270 rfl (by first | exact hC.k 0 rfl | exact hC.k 54 rfl | exact hC.k 39 rfl | exact hQ.k | exact hQ.k12) rfl rfl rfl (by decide) (by decide) (spG) rfl rfl ?_
  refine VW.cast (ci := 4) (T := T4) (NN := 13) (pc' := 19) d_F_prepare_16 rfl lk_F_63 rfl (by first | exact hC.k 0 rfl | exact hC.k 54 rfl | exact hC.k 39 rfl | exact hQ.k | exact hQ.k12) ?_
  refine VW.astore_n (pc' := 20) d_F_prepare_19 rfl rfl ?_
  refine VW.aload_n (pc' := 21) d_F_prepare_20 rfl rfl ?_
  refine VW.gI (ci := 4) (T := T4) (N := 13) (k := 9) (k' := 9) (pc' := 24) d_F_prepare_21 rfl lk_F_295 in4 rfl rfl rfl rfl (by first | exact hC.k 0 rfl | exact hC.k 54 rfl | exact hC.k 39 rfl | exact hQ.k | exact hQ.k12) (by first | exact hC.p 4 rfl | exact hC.p 3 rfl | exact hQ.p12 | rfl) ?_
  refine VW.if_ne (tgt := 35) (pc' := 27) d_F_prepare_24 rfl rfl (fun c24 => ?_) (fun c24 => ?_)
  case refine_2 => exact absurd c24 (h9)
  refine VW.aload_n (pc' := 36) d_F_prepare_35 rfl rfl ?_
  refine VW.gI (ci := 4) (T := T4) (N := 13) (k := 9) (k' := 9) (pc' := 39) d_F_prepare_36 rfl lk_F_295 in4 rfl rfl rfl rfl (by first | exact hC.k 0 rfl | exact hC.k 54 rfl | exact hC.k 39 rfl | exact hQ.k | exact hQ.k12) (by first | exact hC.p 4 rfl | exact hC.p 3 rfl | exact hQ.p12 | rfl) ?_
  refine VW.if_eq (tgt := 49) (pc' := 42) d_F_prepare_39 rfl rfl (fun c39 => ?_) (fun c39 => ?_)
  case refine_1 => exact absurd c39 (h9)
  refine VW.aload_n (pc' := 43) d_F_prepare_42 rfl rfl ?_
  refine VW.gI (ci := 4) (T := T4) (N := 13) (k := 10) (k' := 10) (pc' := 46) d_F_prepare_43 rfl lk_F_303 in4 rfl rfl rfl rfl (by first | exact hC.k 0 rfl | exact hC.k 54 rfl | exact hC.k 39 rfl | exact hQ.k | exact hQ.k12) (by first | exact hC.p 4 rfl | exact hC.p 3 rfl | exact hQ.p12 | rfl) ?_
  refine VW.goto (pc' := 50) d_F_prepare_46 rfl ?_
  exact VW.iret d_F_prepare_50 rfl rfl (by decide) (by decide) ex_rf
theorem prepare_run (hC : ClW K P) (hL : QnL K P I nq lqq) (hy : y < nq) (h9 : I (qX y) 9 = 0) (spP : Sp m_Planner_plan false (rmv 6 260) (ex K P J I' (.inl none)) K P J I [vR (some 1384), vR (some (qX y))]) : Sp m_F_prepare true ({ frames := 12, cells := 0, slots := 0, locals := 400 } : Room) (ex K P J I' (.inl (some (vI (if I' (qX y) 9 = 0 then -1 else I' (qX y) 10))))) K P J I [vR (some 1000), vI (y : Int)] := by
  have hQ := (hL.2.2 y hy).2
  have hz : I 1480 2 = (nq : Int) := hL.1.2.2.2.1.1
  have hcp := hL.1.2.2.2.1.2.1
  have el := (hL.2.2 y hy).1
  have spG := sp_java_util_ArrayList_get (J := J) (I := I) (i := (y : Int)) hL.1.1 (by rw [hz]; omega) (by rw [hz]; omega)
  rw [el] at spG
  have spY := F_hasQ1 (J := J) hC hz (a := (y : Int)) ⟨by omega, by omega⟩
  refine Sp.ofV (by decide) (Or.inl rfl) rfl ?_
  refine VW.aload_n (pc' := 1) d_F_prepare_0 rfl rfl ?_
  refine VW.iload_n (pc' := 2) d_F_prepare_1 rfl rfl ?_
  refine VW.cV (ci := 10) (T := T10) (N := 11) (pc' := 5) d_F_prepare_2 rfl mv_F_hasQuery lk_F_267 rfl (by first | exact hC.k 0 rfl | exact hC.k 54 rfl | exact hC.k 39 rfl | exact hQ.k | exact hQ.k12) rfl rfl rfl (by decide) (by decide) (spY) rfl rfl ?_
  refine VW.callSX (pc' := 8) d_F_prepare_5 rfl (sp_F_demandPlace1 (by decide)) rfl ms_F_demandPlace.1 ms_F_demandPlace.2.1 rfl ms_F_demandPlace.2.2 lk_F_97 rfl rfl rfl (by decide) (by decide) (fun _ _ _ _ _ hz => by cases hz.1) (fun r _ _ _ _ hz => ?_)
  obtain ⟨z1, z2, z3, z4, z5⟩ := hz
  cases z1
  replace z2 := z2.symm; replace z3 := z3.symm; replace z4 := z4.symm; replace z5 := z5.symm
  subst z2; subst z3; subst z4; subst z5
  refine VW.aload_n (pc' := 9) d_F_prepare_8 rfl rfl ?_
  refine VW.gP (ci := 10) (T := T10) (N := 11) (k := 4) (k' := 4) (pc' := 12) d_F_prepare_9 rfl lk_F_42 in10 rfl rfl rfl rfl (by first | exact hC.k 0 rfl | exact hC.k 54 rfl | exact hC.k 39 rfl | exact hQ.k | exact hQ.k12) (by first | exact hC.p 4 rfl | exact hC.p 3 rfl | exact hQ.p12 | rfl) ?_
  refine VW.iload_n (pc' := 13) d_F_prepare_12 rfl rfl ?_
  refine VW.cV (ci := 12) (T := T12) (N := 3) (pc' := 16) d_F_prepare_13 rfl mv_java_util_ArrayList_get lk_F_270 rfl (by first | exact hC.k 0 rfl | exact hC.k 54 rfl | exact hC.k 39 rfl | exact hQ.k | exact hQ.k12) rfl rfl rfl (by decide) (by decide) (spG) rfl rfl ?_
  refine VW.cast (ci := 4) (T := T4) (NN := 13) (pc' := 19) d_F_prepare_16 rfl lk_F_63 rfl (by first | exact hC.k 0 rfl | exact hC.k 54 rfl | exact hC.k 39 rfl | exact hQ.k | exact hQ.k12) ?_
  refine VW.astore_n (pc' := 20) d_F_prepare_19 rfl rfl ?_
  refine VW.aload_n (pc' := 21) d_F_prepare_20 rfl rfl ?_
  refine VW.gI (ci := 4) (T := T4) (N := 13) (k := 9) (k' := 9) (pc' := 24) d_F_prepare_21 rfl lk_F_295 in4 rfl rfl rfl rfl (by first | exact hC.k 0 rfl | exact hC.k 54 rfl | exact hC.k 39 rfl | exact hQ.k | exact hQ.k12) (by first | exact hC.p 4 rfl | exact hC.p 3 rfl | exact hQ.p12 | rfl) ?_
  refine VW.if_ne (tgt := 35) (pc' := 27) d_F_prepare_24 rfl rfl (fun c24 => ?_) (fun c24 => ?_)
  case refine_1 => exact absurd c24 (fun z => z h9)
  refine VW.aload_n (pc' := 28) d_F_prepare_27 rfl rfl ?_
  refine VW.gP (ci := 10) (T := T10) (N := 11) (k := 3) (k' := 3) (pc' := 31) d_F_prepare_28 rfl lk_F_35 in10 rfl rfl rfl rfl (by first | exact hC.k 0 rfl | exact hC.k 54 rfl | exact hC.k 39 rfl | exact hQ.k | exact hQ.k12) (by first | exact hC.p 4 rfl | exact hC.p 3 rfl | exact hQ.p12 | rfl) ?_
  refine VW.aload_n (pc' := 32) d_F_prepare_31 rfl rfl ?_
  refine VW.cV (ci := 3) (T := T3) (N := 14) (pc' := 35) d_F_prepare_32 rfl mv_Planner_plan lk_F_299 rfl (by first | exact hC.k 0 rfl | exact hC.k 54 rfl | exact hC.k 39 rfl | exact hQ.k | exact hQ.k12) rfl rfl rfl (by decide) (by decide) (spP) rfl rfl ?_
  refine VW.aload_n (pc' := 36) d_F_prepare_35 rfl rfl ?_
  refine VW.gI (ci := 4) (T := T4) (N := 13) (k := 9) (k' := 9) (pc' := 39) d_F_prepare_36 rfl lk_F_295 in4 rfl rfl rfl rfl (by first | exact hC.k 0 rfl | exact hC.k 54 rfl | exact hC.k 39 rfl | exact hQ.k | exact hQ.k12) (by first | exact hC.p 4 rfl | exact hC.p 3 rfl | exact hQ.p12 | rfl) ?_
  refine VW.if_eq (tgt := 49) (pc' := 42) d_F_prepare_39 rfl rfl (fun c39 => ?_) (fun c39 => ?_)
  · try have e39 := bIe c39
    refine VW.iconst (pc' := 50) d_F_prepare_49 rfl (by decide) ?_
    exact VW.iret d_F_prepare_50 rfl rfl (by decide) (by decide) (by first | (rw [if_pos c39]; exact ex_rf) | (rw [if_neg c39]; exact ex_rf))
  · try have e39 := bIn c39
    refine VW.aload_n (pc' := 43) d_F_prepare_42 rfl rfl ?_
    refine VW.gI (ci := 4) (T := T4) (N := 13) (k := 10) (k' := 10) (pc' := 46) d_F_prepare_43 rfl lk_F_303 in4 rfl rfl rfl rfl (by first | exact hC.k 0 rfl | exact hC.k 54 rfl | exact hC.k 39 rfl | exact hQ.k | exact hQ.k12) (by first | exact hC.p 4 rfl | exact hC.p 3 rfl | exact hQ.p12 | rfl) ?_
    refine VW.goto (pc' := 50) d_F_prepare_46 rfl ?_
    exact VW.iret d_F_prepare_50 rfl rfl (by decide) (by decide) (by first | (rw [if_pos c39]; exact ex_rf) | (rw [if_neg c39]; exact ex_rf))
theorem prepare_no1 (hC : ClW K P) (hL : QnL K P I nq lqq) (ha : ¬ (0 ≤ a ∧ a < nq)) : Sp m_F_prepare true ({ frames := 12, cells := 1, slots := 6, locals := 400 } : Room) (ex K P J I (.inr eIOO)) K P J I [vR (some 1000), vI a] := by
  have hz : I 1480 2 = (nq : Int) := hL.1.2.2.2.1.1
  have spY := F_hasQ0 (J := J) hC hz (a := a) ha
  refine Sp.ofV (by decide) (Or.inl rfl) rfl ?_
  refine VW.aload_n (pc' := 1) d_F_prepare_0 rfl rfl ?_
  refine VW.iload_n (pc' := 2) d_F_prepare_1 rfl rfl ?_
  refine VW.cV (ci := 10) (T := T10) (N := 11) (pc' := 5) d_F_prepare_2 rfl mv_F_hasQuery lk_F_267 rfl (by first | exact hC.k 0 rfl | exact hC.k 54 rfl | exact hC.k 39 rfl | exact hQ.k | exact hQ.k12) rfl rfl rfl (by decide) (by decide) (spY) rfl rfl ?_
  refine VW.callSX (pc' := 8) d_F_prepare_5 rfl (sp_F_demandPlace0) rfl ms_F_demandPlace.1 ms_F_demandPlace.2.1 rfl ms_F_demandPlace.2.2 lk_F_97 rfl rfl rfl (by decide) (by decide) (fun _ _ _ _ _ hz => ?_) (fun _ _ _ _ _ hz => by cases hz.1)
  obtain ⟨z1, z2, z3, z4, z5⟩ := hz
  cases z1
  replace z2 := z2.symm; replace z3 := z3.symm; replace z4 := z4.symm; replace z5 := z5.symm
  subst z2; subst z3; subst z4; subst z5
  exact Or.inl ⟨rfl, ex_rf⟩
  -- end
theorem planAt_no1 {b : Int} (hC : ClW K P) (hL : QnL K P I nq lqq) (ha : ¬ (0 ≤ a ∧ a < nq)) : Sp m_F_planAt true ({ frames := 12, cells := 1, slots := 6, locals := 400 } : Room) (ex K P J I (.inr eIOO)) K P J I [vR (some 1000), vI a, vI b] := by
  have hz : I 1480 2 = (nq : Int) := hL.1.2.2.2.1.1
  have spY := F_hasQ0 (J := J) hC hz (a := a) ha
  refine Sp.ofV (by decide) (Or.inl rfl) rfl ?_
  refine VW.aload_n (pc' := 1) d_F_planAt_0 rfl rfl ?_
  refine VW.iload_n (pc' := 2) d_F_planAt_1 rfl rfl ?_
  refine VW.cV (ci := 10) (T := T10) (N := 11) (pc' := 5) d_F_planAt_2 rfl mv_F_hasQuery lk_F_267 rfl (by first | exact hC.k 0 rfl | exact hC.k 54 rfl | exact hC.k 39 rfl | exact hQ.k | exact hQ.k12) rfl rfl rfl (by decide) (by decide) (spY) rfl rfl ?_
  refine VW.callSX (pc' := 8) d_F_planAt_5 rfl (sp_F_demandPlace0) rfl ms_F_demandPlace.1 ms_F_demandPlace.2.1 rfl ms_F_demandPlace.2.2 lk_F_97 rfl rfl rfl (by decide) (by decide) (fun _ _ _ _ _ hz => ?_) (fun _ _ _ _ _ hz => by cases hz.1)
  obtain ⟨z1, z2, z3, z4, z5⟩ := hz
  cases z1
  replace z2 := z2.symm; replace z3 := z3.symm; replace z4 := z4.symm; replace z5 := z5.symm
  subst z2; subst z3; subst z4; subst z5
  exact Or.inl ⟨rfl, ex_rf⟩
  -- end
theorem planAt_no2 {b : Int} (hC : ClW K P) (hL : QnL K P I nq lqq) (hy : y < nq) (h9 : I (qX y) 9 = 0) : Sp m_F_planAt true ({ frames := 12, cells := 1, slots := 6, locals := 400 } : Room) (ex K P J I (.inr eISE)) K P J I [vR (some 1000), vI (y : Int), vI b] := by
  have hQ := (hL.2.2 y hy).2
  have hz : I 1480 2 = (nq : Int) := hL.1.2.2.2.1.1
  have hcp := hL.1.2.2.2.1.2.1
  have el := (hL.2.2 y hy).1
  have spG := sp_java_util_ArrayList_get (J := J) (I := I) (i := (y : Int)) hL.1.1 (by rw [hz]; omega) (by rw [hz]; omega)
  rw [el] at spG
  have spY := F_hasQ1 (J := J) hC hz (a := (y : Int)) ⟨by omega, by omega⟩
  refine Sp.ofV (by decide) (Or.inl rfl) rfl ?_
  refine VW.aload_n (pc' := 1) d_F_planAt_0 rfl rfl ?_
  refine VW.iload_n (pc' := 2) d_F_planAt_1 rfl rfl ?_
  refine VW.cV (ci := 10) (T := T10) (N := 11) (pc' := 5) d_F_planAt_2 rfl mv_F_hasQuery lk_F_267 rfl (by first | exact hC.k 0 rfl | exact hC.k 54 rfl | exact hC.k 39 rfl | exact hQ.k | exact hQ.k12) rfl rfl rfl (by decide) (by decide) (spY) rfl rfl ?_
  refine VW.callSX (pc' := 8) d_F_planAt_5 rfl (sp_F_demandPlace1 (by decide)) rfl ms_F_demandPlace.1 ms_F_demandPlace.2.1 rfl ms_F_demandPlace.2.2 lk_F_97 rfl rfl rfl (by decide) (by decide) (fun _ _ _ _ _ hz => by cases hz.1) (fun r _ _ _ _ hz => ?_)
  obtain ⟨z1, z2, z3, z4, z5⟩ := hz
  cases z1
  replace z2 := z2.symm; replace z3 := z3.symm; replace z4 := z4.symm; replace z5 := z5.symm
  subst z2; subst z3; subst z4; subst z5
  refine VW.aload_n (pc' := 9) d_F_planAt_8 rfl rfl ?_
  refine VW.gP (ci := 10) (T := T10) (N := 11) (k := 4) (k' := 4) (pc' := 12) d_F_planAt_9 rfl lk_F_42 in10 rfl rfl rfl rfl (by first | exact hC.k 0 rfl | exact hC.k 54 rfl | exact hC.k 39 rfl | exact hQ.k | exact hQ.k12) (by first | exact hC.p 4 rfl | exact hC.p 3 rfl | exact hQ.p12 | rfl) ?_
  refine VW.iload_n (pc' := 13) d_F_planAt_12 rfl rfl ?_
  refine VW.cV (ci := 12) (T := T12) (N := 3) (pc' := 16) d_F_planAt_13 rfl mv_java_util_ArrayList_get lk_F_270 rfl (by first | exact hC.k 0 rfl | exact hC.k 54 rfl | exact hC.k 39 rfl | exact hQ.k | exact hQ.k12) rfl rfl rfl (by decide) (by decide) (spG) rfl rfl ?_
  refine VW.cast (ci := 4) (T := T4) (NN := 13) (pc' := 19) d_F_planAt_16 rfl lk_F_63 rfl (by first | exact hC.k 0 rfl | exact hC.k 54 rfl | exact hC.k 39 rfl | exact hQ.k | exact hQ.k12) ?_
  refine VW.astore_n (pc' := 20) d_F_planAt_19 rfl rfl ?_
  refine VW.aload_n (pc' := 21) d_F_planAt_20 rfl rfl ?_
  refine VW.gI (ci := 4) (T := T4) (N := 13) (k := 9) (k' := 9) (pc' := 24) d_F_planAt_21 rfl lk_F_295 in4 rfl rfl rfl rfl (by first | exact hC.k 0 rfl | exact hC.k 54 rfl | exact hC.k 39 rfl | exact hQ.k | exact hQ.k12) (h9) ?_
  refine VW.callSX (pc' := 27) d_F_planAt_24 rfl (sp_F_demandState0) rfl ms_F_demandState.1 ms_F_demandState.2.1 rfl ms_F_demandState.2.2 lk_F_82 rfl rfl rfl (by decide) (by decide) (fun _ _ _ _ _ hz => ?_) (fun _ _ _ _ _ hz => by cases hz.1)
  obtain ⟨z1, z2, z3, z4, z5⟩ := hz
  cases z1
  replace z2 := z2.symm; replace z3 := z3.symm; replace z4 := z4.symm; replace z5 := z5.symm
  subst z2; subst z3; subst z4; subst z5
  exact Or.inl ⟨rfl, ex_rf⟩
  -- end
theorem planAt_run {b : Int} (hC : ClW K P) (hL : QnL K P I nq lqq) (hy : y < nq) (h9 : I (qX y) 9 = 1) (hl : I (qX y) 11 ≤ 3) : Sp m_F_planAt true ({ frames := 12, cells := 0, slots := 0, locals := 400 } : Room) (ex K P J I (.inl (some (vI (if 0 ≤ b ∧ b < I (qX y) 11 then I (qX y + 13) b else -1))))) K P J I [vR (some 1000), vI (y : Int), vI b] := by
  have hQ := (hL.2.2 y hy).2
  have hz : I 1480 2 = (nq : Int) := hL.1.2.2.2.1.1
  have hcp := hL.1.2.2.2.1.2.1
  have el := (hL.2.2 y hy).1
  have spG := sp_java_util_ArrayList_get (J := J) (I := I) (i := (y : Int)) hL.1.1 (by rw [hz]; omega) (by rw [hz]; omega)
  rw [el] at spG
  have spY := F_hasQ1 (J := J) hC hz (a := (y : Int)) ⟨by omega, by omega⟩
  refine Sp.ofV (by decide) (Or.inl rfl) rfl ?_
  refine VW.aload_n (pc' := 1) d_F_planAt_0 rfl rfl ?_
  refine VW.iload_n (pc' := 2) d_F_planAt_1 rfl rfl ?_
  refine VW.cV (ci := 10) (T := T10) (N := 11) (pc' := 5) d_F_planAt_2 rfl mv_F_hasQuery lk_F_267 rfl (by first | exact hC.k 0 rfl | exact hC.k 54 rfl | exact hC.k 39 rfl | exact hQ.k | exact hQ.k12) rfl rfl rfl (by decide) (by decide) (spY) rfl rfl ?_
  refine VW.callSX (pc' := 8) d_F_planAt_5 rfl (sp_F_demandPlace1 (by decide)) rfl ms_F_demandPlace.1 ms_F_demandPlace.2.1 rfl ms_F_demandPlace.2.2 lk_F_97 rfl rfl rfl (by decide) (by decide) (fun _ _ _ _ _ hz => by cases hz.1) (fun r _ _ _ _ hz => ?_)
  obtain ⟨z1, z2, z3, z4, z5⟩ := hz
  cases z1
  replace z2 := z2.symm; replace z3 := z3.symm; replace z4 := z4.symm; replace z5 := z5.symm
  subst z2; subst z3; subst z4; subst z5
  refine VW.aload_n (pc' := 9) d_F_planAt_8 rfl rfl ?_
  refine VW.gP (ci := 10) (T := T10) (N := 11) (k := 4) (k' := 4) (pc' := 12) d_F_planAt_9 rfl lk_F_42 in10 rfl rfl rfl rfl (by first | exact hC.k 0 rfl | exact hC.k 54 rfl | exact hC.k 39 rfl | exact hQ.k | exact hQ.k12) (by first | exact hC.p 4 rfl | exact hC.p 3 rfl | exact hQ.p12 | rfl) ?_
  refine VW.iload_n (pc' := 13) d_F_planAt_12 rfl rfl ?_
  refine VW.cV (ci := 12) (T := T12) (N := 3) (pc' := 16) d_F_planAt_13 rfl mv_java_util_ArrayList_get lk_F_270 rfl (by first | exact hC.k 0 rfl | exact hC.k 54 rfl | exact hC.k 39 rfl | exact hQ.k | exact hQ.k12) rfl rfl rfl (by decide) (by decide) (spG) rfl rfl ?_
  refine VW.cast (ci := 4) (T := T4) (NN := 13) (pc' := 19) d_F_planAt_16 rfl lk_F_63 rfl (by first | exact hC.k 0 rfl | exact hC.k 54 rfl | exact hC.k 39 rfl | exact hQ.k | exact hQ.k12) ?_
  refine VW.astore_n (pc' := 20) d_F_planAt_19 rfl rfl ?_
  refine VW.aload_n (pc' := 21) d_F_planAt_20 rfl rfl ?_
  refine VW.gI (ci := 4) (T := T4) (N := 13) (k := 9) (k' := 9) (pc' := 24) d_F_planAt_21 rfl lk_F_295 in4 rfl rfl rfl rfl (by first | exact hC.k 0 rfl | exact hC.k 54 rfl | exact hC.k 39 rfl | exact hQ.k | exact hQ.k12) (h9) ?_
  refine VW.callSX (pc' := 27) d_F_planAt_24 rfl (sp_F_demandState1 (by decide)) rfl ms_F_demandState.1 ms_F_demandState.2.1 rfl ms_F_demandState.2.2 lk_F_82 rfl rfl rfl (by decide) (by decide) (fun _ _ _ _ _ hz => by cases hz.1) (fun r _ _ _ _ hz => ?_)
  obtain ⟨z1, z2, z3, z4, z5⟩ := hz
  cases z1
  replace z2 := z2.symm; replace z3 := z3.symm; replace z4 := z4.symm; replace z5 := z5.symm
  subst z2; subst z3; subst z4; subst z5
  refine VW.iload_n (pc' := 28) d_F_planAt_27 rfl rfl ?_
  refine VW.if_lt (tgt := 48) (pc' := 31) d_F_planAt_28 rfl rfl (fun c28 => ?_) (fun c28 => ?_)
  · refine VW.iconst (pc' := 49) d_F_planAt_48 rfl (by decide) ?_
    exact VW.iret d_F_planAt_49 rfl rfl (by decide) (by decide) (by first | (rw [if_pos ⟨by omega, by omega⟩]; exact ex_rf) | (rw [if_neg (by omega)]; exact ex_rf))
  · refine VW.iload_n (pc' := 32) d_F_planAt_31 rfl rfl ?_
    refine VW.aload_n (pc' := 33) d_F_planAt_32 rfl rfl ?_
    refine VW.gI (ci := 4) (T := T4) (N := 13) (k := 11) (k' := 11) (pc' := 36) d_F_planAt_33 rfl lk_F_306 in4 rfl rfl rfl rfl (by first | exact hC.k 0 rfl | exact hC.k 54 rfl | exact hC.k 39 rfl | exact hQ.k | exact hQ.k12) (by first | exact hC.p 4 rfl | exact hC.p 3 rfl | exact hQ.p12 | rfl) ?_
    refine VW.icmp_ge (tgt := 48) (pc' := 39) d_F_planAt_36 rfl rfl (fun c36 => ?_) (fun c36 => ?_)
    · refine VW.iconst (pc' := 49) d_F_planAt_48 rfl (by decide) ?_
      exact VW.iret d_F_planAt_49 rfl rfl (by decide) (by decide) (by first | (rw [if_pos ⟨by omega, by omega⟩]; exact ex_rf) | (rw [if_neg (by omega)]; exact ex_rf))
    · refine VW.aload_n (pc' := 40) d_F_planAt_39 rfl rfl ?_
      refine VW.gP (ci := 4) (T := T4) (N := 13) (k := 12) (k' := 12) (pc' := 43) d_F_planAt_40 rfl lk_F_309 in4 rfl rfl rfl rfl (by first | exact hC.k 0 rfl | exact hC.k 54 rfl | exact hC.k 39 rfl | exact hQ.k | exact hQ.k12) (by first | exact hC.p 4 rfl | exact hC.p 3 rfl | exact hQ.p12 | rfl) ?_
      refine VW.iload_n (pc' := 44) d_F_planAt_43 rfl rfl ?_
      refine VW.ild (pc' := 45) d_F_planAt_44 rfl (by first | exact hC.k 0 rfl | exact hC.k 54 rfl | exact hC.k 39 rfl | exact hQ.k | exact hQ.k12) (by omega) (by omega) (by first | exact hC.p 4 rfl | exact hC.p 3 rfl | exact hQ.p12 | rfl) ?_
      refine VW.goto (pc' := 49) d_F_planAt_45 rfl ?_
      exact VW.iret d_F_planAt_49 rfl rfl (by decide) (by decide) (by first | (rw [if_pos ⟨by omega, by omega⟩]; exact ex_rf) | (rw [if_neg (by omega)]; exact ex_rf))
end
