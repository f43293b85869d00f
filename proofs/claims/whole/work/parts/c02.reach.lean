/-! the block of a query: where it begins, what is reached -/
section
variable {K : KT} {P : PT} {J I : IT} {q n : Nat} {x : Int}
def quPas (I : IT) (q : Nat) (x : Int) : Prop := quFlt I q x ∨ I (q + 3) x = 5 ∨ I (q + 3) x = 6
theorem sp_Planner_isPassed (hQ : QuW K P q) (hx : 0 ≤ x ∧ x < 12) : Sp m_Planner_isPassed false (rmv 2 60) (ex K P J I (.inl (some (vI (bI (quPas I q x)))))) K P J I [vR (some q), vI x] := by
  refine Sp.ofV (by decide) (Or.inr rfl) rfl ?_
  refine VW.aload_n (pc' := 1) d_Planner_isPassed_0 rfl rfl ?_
  refine VW.iload_n (pc' := 2) d_Planner_isPassed_1 rfl rfl ?_
  refine VW.cV (ci := 4) (T := T4) (N := 13) (pc' := 5) d_Planner_isPassed_2 rfl mv_Query_isFilter lk_Planner_108 rfl (by first | exact hQ.k | exact hQ.k2 | exact hQ.k3 | exact hQ.k4 | exact hQ.k5 | exact hQ.k6) rfl rfl rfl (Nat.le_refl _) (Nat.le_refl _) (sp_Query_isFilter hQ hx) rfl rfl ?_
  refine VW.if_ne (tgt := 29) (pc' := 8) d_Planner_isPassed_5 rfl rfl (fun c5 => ?_) (fun c5 => ?_)
  · try have e5Z := bIn c5
    refine VW.iconst (pc' := 30) d_Planner_isPassed_29 rfl (by decide) ?_
    refine VW.goto (pc' := 34) d_Planner_isPassed_30 rfl ?_
    exact VW.iret d_Planner_isPassed_34 rfl rfl (Nat.zero_le _) (Nat.zero_le _) (by first | exact ex_v (bI1 (Or.inl e5Z)) | exact ex_v (bI1 (Or.inr (Or.inl c15))) | exact ex_v (bI1 (Or.inr (Or.inr c26))) | exact ex_v (bI0 (fun z => z.elim e5Z (fun y => y.elim c15 c26))))
  · try have e5Z := bIe c5
    refine VW.aload_n (pc' := 9) d_Planner_isPassed_8 rfl rfl ?_
    refine VW.gP (ci := 4) (T := T4) (N := 13) (k := 2) (k' := 2) (pc' := 12) d_Planner_isPassed_9 rfl lk_Planner_111 in4 rfl rfl rfl rfl (by first | exact hQ.k | exact hQ.k2 | exact hQ.k3 | exact hQ.k4 | exact hQ.k5 | exact hQ.k6) (by first | exact hQ.p2 | exact hQ.p3 | exact hQ.p4 | exact hQ.p5 | exact hQ.p6 | rfl) ?_
    refine VW.iload_n (pc' := 13) d_Planner_isPassed_12 rfl rfl ?_
    refine VW.ild (pc' := 14) d_Planner_isPassed_13 rfl (by first | exact hQ.k | exact hQ.k2 | exact hQ.k3 | exact hQ.k4 | exact hQ.k5 | exact hQ.k6) (by omega) (by omega) (by first | exact hQ.p2 | exact hQ.p3 | exact hQ.p4 | exact hQ.p5 | exact hQ.p6 | rfl) ?_
    refine VW.iconst (pc' := 15) d_Planner_isPassed_14 rfl (by decide) ?_
    refine VW.icmp_eq (tgt := 29) (pc' := 18) d_Planner_isPassed_15 rfl rfl (fun c15 => ?_) (fun c15 => ?_)
    · refine VW.iconst (pc' := 30) d_Planner_isPassed_29 rfl (by decide) ?_
      refine VW.goto (pc' := 34) d_Planner_isPassed_30 rfl ?_
      exact VW.iret d_Planner_isPassed_34 rfl rfl (Nat.zero_le _) (Nat.zero_le _) (by first | exact ex_v (bI1 (Or.inl e5Z)) | exact ex_v (bI1 (Or.inr (Or.inl c15))) | exact ex_v (bI1 (Or.inr (Or.inr c26))) | exact ex_v (bI0 (fun z => z.elim e5Z (fun y => y.elim c15 c26))))
    · refine VW.aload_n (pc' := 19) d_Planner_isPassed_18 rfl rfl ?_
      refine VW.gP (ci := 4) (T := T4) (N := 13) (k := 2) (k' := 2) (pc' := 22) d_Planner_isPassed_19 rfl lk_Planner_111 in4 rfl rfl rfl rfl (by first | exact hQ.k | exact hQ.k2 | exact hQ.k3 | exact hQ.k4 | exact hQ.k5 | exact hQ.k6) (by first | exact hQ.p2 | exact hQ.p3 | exact hQ.p4 | exact hQ.p5 | exact hQ.p6 | rfl) ?_
      refine VW.iload_n (pc' := 23) d_Planner_isPassed_22 rfl rfl ?_
      refine VW.ild (pc' := 24) d_Planner_isPassed_23 rfl (by first | exact hQ.k | exact hQ.k2 | exact hQ.k3 | exact hQ.k4 | exact hQ.k5 | exact hQ.k6) (by omega) (by omega) (by first | exact hQ.p2 | exact hQ.p3 | exact hQ.p4 | exact hQ.p5 | exact hQ.p6 | rfl) ?_
      refine VW.bipush (pc' := 26) d_Planner_isPassed_24 rfl (by decide) ?_
      refine VW.icmp_ne (tgt := 33) (pc' := 29) d_Planner_isPassed_26 rfl rfl (fun c26 => ?_) (fun c26 => ?_)
      · refine VW.iconst (pc' := 34) d_Planner_isPassed_33 rfl (by decide) ?_
        exact VW.iret d_Planner_isPassed_34 rfl rfl (Nat.zero_le _) (Nat.zero_le _) (by first | exact ex_v (bI1 (Or.inl e5Z)) | exact ex_v (bI1 (Or.inr (Or.inl c15))) | exact ex_v (bI1 (Or.inr (Or.inr c26))) | exact ex_v (bI0 (fun z => z.elim e5Z (fun y => y.elim c15 c26))))
      · refine VW.iconst (pc' := 30) d_Planner_isPassed_29 rfl (by decide) ?_
        refine VW.goto (pc' := 34) d_Planner_isPassed_30 rfl ?_
        exact VW.iret d_Planner_isPassed_34 rfl rfl (Nat.zero_le _) (Nat.zero_le _) (by first | exact ex_v (bI1 (Or.inl e5Z)) | exact ex_v (bI1 (Or.inr (Or.inl c15))) | exact ex_v (bI1 (Or.inr (Or.inr c26))) | exact ex_v (bI0 (fun z => z.elim e5Z (fun y => y.elim c15 c26))))
def quBlk (I : IT) (q : Nat) (x : Int) : Prop := quInn I q x ∨ quFlt I q x
theorem sp_Planner_isInner (hQ : QuW K P q) (hx : 0 ≤ x ∧ x < 12) : Sp m_Planner_isInner false (rmv 3 80) (ex K P J I (.inl (some (vI (bI (quBlk I q x)))))) K P J I [vR (some q), vI x] := by
  refine Sp.ofV (by decide) (Or.inr rfl) rfl ?_
  refine VW.aload_n (pc' := 1) d_Planner_isInner_0 rfl rfl ?_
  refine VW.iload_n (pc' := 2) d_Planner_isInner_1 rfl rfl ?_
  refine VW.cV (ci := 4) (T := T4) (N := 13) (pc' := 5) d_Planner_isInner_2 rfl mv_Query_isInnerJoin lk_Planner_104 rfl (by first | exact hQ.k | exact hQ.k2 | exact hQ.k3 | exact hQ.k4 | exact hQ.k5 | exact hQ.k6) rfl rfl rfl (Nat.le_refl _) (Nat.le_refl _) (sp_Query_isInnerJoin hQ hx) rfl rfl ?_
  refine VW.if_ne (tgt := 16) (pc' := 8) d_Planner_isInner_5 rfl rfl (fun c5 => ?_) (fun c5 => ?_)
  · try have e5Z := bIn c5
    refine VW.iconst (pc' := 17) d_Planner_isInner_16 rfl (by decide) ?_
    refine VW.goto (pc' := 21) d_Planner_isInner_17 rfl ?_
    exact VW.iret d_Planner_isInner_21 rfl rfl (Nat.zero_le _) (Nat.zero_le _) (by first | exact ex_v (bI1 (Or.inl e5Z)) | exact ex_v (bI1 (Or.inr e13Z)) | exact ex_v (bI0 (fun z => z.elim e5Z e13Z)))
  · try have e5Z := bIe c5
    refine VW.aload_n (pc' := 9) d_Planner_isInner_8 rfl rfl ?_
    refine VW.iload_n (pc' := 10) d_Planner_isInner_9 rfl rfl ?_
    refine VW.cV (ci := 4) (T := T4) (N := 13) (pc' := 13) d_Planner_isInner_10 rfl mv_Query_isFilter lk_Planner_108 rfl (by first | exact hQ.k | exact hQ.k2 | exact hQ.k3 | exact hQ.k4 | exact hQ.k5 | exact hQ.k6) rfl rfl rfl (Nat.le_refl _) (Nat.le_refl _) (sp_Query_isFilter hQ hx) rfl rfl ?_
    refine VW.if_eq (tgt := 20) (pc' := 16) d_Planner_isInner_13 rfl rfl (fun c13 => ?_) (fun c13 => ?_)
    · try have e13Z := bIe c13
      refine VW.iconst (pc' := 21) d_Planner_isInner_20 rfl (by decide) ?_
      exact VW.iret d_Planner_isInner_21 rfl rfl (Nat.zero_le _) (Nat.zero_le _) (by first | exact ex_v (bI1 (Or.inl e5Z)) | exact ex_v (bI1 (Or.inr e13Z)) | exact ex_v (bI0 (fun z => z.elim e5Z e13Z)))
    · try have e13Z := bIn c13
      refine VW.iconst (pc' := 17) d_Planner_isInner_16 rfl (by decide) ?_
      refine VW.goto (pc' := 21) d_Planner_isInner_17 rfl ?_
      exact VW.iret d_Planner_isInner_21 rfl rfl (Nat.zero_le _) (Nat.zero_le _) (by first | exact ex_v (bI1 (Or.inl e5Z)) | exact ex_v (bI1 (Or.inr e13Z)) | exact ex_v (bI0 (fun z => z.elim e5Z e13Z)))
/-- the block's first join, or -1 -/
noncomputable def tbT (I : IT) (q : Nat) : Nat → Nat
  | 0 => 0
  | x + 1 => if bI (quPas I q ((x + 1 : Nat) : Int)) = 1 then tbT I q x else x + 1
theorem tbT_yes {x : Nat} (h : quPas I q ((x + 1 : Nat) : Int)) : tbT I q (x + 1) = tbT I q x := if_pos (bI1 h)
theorem tbT_no {x : Nat} (h : ¬ quPas I q ((x + 1 : Nat) : Int)) : tbT I q (x + 1) = x + 1 := if_neg (by rw [bI0 h]; decide)
theorem tbT_le : ∀ x : Nat, tbT I q x ≤ x := by
  intro x
  induction x with
  | zero => exact Nat.le_refl _
  | succ x ihZ =>
    by_cases hZ : quPas I q ((x + 1 : Nat) : Int)
    · rw [tbT_yes hZ]; omega
    · rw [tbT_no hZ]; omega
noncomputable def tpR (I : IT) (q n : Nat) : Int := if bI (quInn I q (tbT I q n)) = 1 then ((tbT I q n : Nat) : Int) else -1
theorem sp_Planner_topOfBlock (hQ : QuW K P q) (hn : I q 0 = (n : Int) + 1) (h12 : n < 12) : Sp m_Planner_topOfBlock false (rmv 3 90) (ex K P J I (.inl (some (vI (tpR I q n))))) K P J I [vR (some q)] := by
  refine Sp.ofV (by decide) (Or.inr rfl) rfl ?_
  have tl := tbT_le (I := I) (q := q) n
  have finZ : VW m_Planner_topOfBlock false (rmv 3 90) (ex K P J I (.inl (some (vI (tpR I q n))))) K P J I 0 0 36 [(0, vR (some q)), (1, vI ((tbT I q n : Nat) : Int))] [] := by
    have t12 : 0 ≤ ((tbT I q n : Nat) : Int) ∧ ((tbT I q n : Nat) : Int) < 12 := by omega
    have r1Z : quInn I q (tbT I q n) → ex K P J I (.inl (some (vI (tpR I q n)))) (.inl (some (vI ((tbT I q n : Nat) : Int)))) K P J I := fun h => by
      unfold tpR; rw [if_pos (bI1 h)]; exact ex_rf
    have r0 : ¬ quInn I q (tbT I q n) → ex K P J I (.inl (some (vI (tpR I q n)))) (.inl (some (vI (-1)))) K P J I := fun h => by
      unfold tpR; rw [if_neg (by rw [bI0 h]; decide)]; exact ex_rf
    refine VW.iload_n (pc' := 37) d_Planner_topOfBlock_36 rfl rfl ?_
    refine VW.if_lt (tgt := 52) (pc' := 40) d_Planner_topOfBlock_37 rfl rfl (fun c37 => ?_) (fun c37 => ?_)
    case refine_1 => exact absurd c37 (by omega)
    refine VW.aload_n (pc' := 41) d_Planner_topOfBlock_40 rfl rfl ?_
    refine VW.iload_n (pc' := 42) d_Planner_topOfBlock_41 rfl rfl ?_
    refine VW.cV (ci := 4) (T := T4) (N := 13) (pc' := 45) d_Planner_topOfBlock_42 rfl mv_Query_isInnerJoin lk_Planner_104 rfl (by first | exact hQ.k | exact hQ.k2 | exact hQ.k3 | exact hQ.k4 | exact hQ.k5 | exact hQ.k6) rfl rfl rfl (Nat.le_refl _) (Nat.le_refl _) (sp_Query_isInnerJoin hQ t12) rfl rfl ?_
    refine VW.if_eq (tgt := 52) (pc' := 48) d_Planner_topOfBlock_45 rfl rfl (fun c45 => ?_) (fun c45 => ?_)
    · try have e45 := bIe c45
      refine VW.iconst (pc' := 53) d_Planner_topOfBlock_52 rfl (by decide) ?_
      exact VW.iret d_Planner_topOfBlock_53 rfl rfl (Nat.zero_le _) (Nat.zero_le _) (by first | exact r1Z e45 | exact r0 e45)
    · try have e45 := bIn c45
      refine VW.iload_n (pc' := 49) d_Planner_topOfBlock_48 rfl rfl ?_
      refine VW.goto (pc' := 53) d_Planner_topOfBlock_49 rfl ?_
      exact VW.iret d_Planner_topOfBlock_53 rfl rfl (Nat.zero_le _) (Nat.zero_le _) (by first | exact r1Z e45 | exact r0 e45)
  have loopZ : ∀ x : Nat, x ≤ n → tbT I q x = tbT I q n → VW m_Planner_topOfBlock false (rmv 3 90) (ex K P J I (.inl (some (vI (tpR I q n))))) K P J I 0 0 14 [(0, vR (some q)), (1, vI (x : Int)), (2, vI (x : Int))] [] := by
    intro x
    induction x with
    | zero =>
      intro hx he
      have fZ := finZ
      rw [← he] at fZ
      clear finZ
      refine VW.iload_n (pc' := 15) d_Planner_topOfBlock_14 rfl rfl ?_
      refine VW.if_le (tgt := 36) (pc' := 18) d_Planner_topOfBlock_15 rfl rfl (fun c15 => ?_) (fun c15 => ?_)
      case refine_2 => exact absurd c15 (by omega)
      refine VW.pick [0, 1] ?_
      exact fZ
    | succ x ihZ =>
      intro hx he
      have i1Z : quPas I q ((x + 1 : Nat) : Int) → VW m_Planner_topOfBlock false (rmv 3 90) (ex K P J I (.inl (some (vI (tpR I q n))))) K P J I 0 0 14 [(0, vR (some q)), (1, vI (((x + 1 : Nat) : Int) - 1)), (2, vI (((x + 1 : Nat) : Int) - 1))] [] := fun h => by
        have := ihZ (by omega) ((tbT_yes h).symm.trans he)
        rw [show ((x + 1 : Nat) : Int) - 1 = x by omega]; exact this
      have i0Z : ¬ quPas I q ((x + 1 : Nat) : Int) → VW m_Planner_topOfBlock false (rmv 3 90) (ex K P J I (.inl (some (vI (tpR I q n))))) K P J I 0 0 36 [(0, vR (some q)), (1, vI ((x + 1 : Nat) : Int))] [] := fun h => by
        have fZ := finZ
        rw [← he, tbT_no h] at fZ
        exact fZ
      clear ihZ finZ
      refine VW.iload_n (pc' := 15) d_Planner_topOfBlock_14 rfl rfl ?_
      refine VW.if_le (tgt := 36) (pc' := 18) d_Planner_topOfBlock_15 rfl rfl (fun c15 => ?_) (fun c15 => ?_)
      case refine_1 => exact absurd c15 (by omega)
      refine VW.aload_n (pc' := 19) d_Planner_topOfBlock_18 rfl rfl ?_
      refine VW.iload_n (pc' := 20) d_Planner_topOfBlock_19 rfl rfl ?_
      refine VW.cS (pc' := 23) d_Planner_topOfBlock_20 rfl ms_Planner_isPassed lk_Planner_100 rfl rfl rfl (Nat.le_refl _) (Nat.le_refl _) (sp_Planner_isPassed hQ (by omega)) rfl rfl ?_
      refine VW.if_eq (tgt := 36) (pc' := 26) d_Planner_topOfBlock_23 rfl rfl (fun c23 => ?_) (fun c23 => ?_)
      · try have e23Z := bIe c23
        refine VW.pick [0, 1] ?_
        exact i0Z e23Z
      · try have e23Z := bIn c23
        refine VW.iload_n (pc' := 27) d_Planner_topOfBlock_26 rfl rfl ?_
        refine VW.iconst (pc' := 28) d_Planner_topOfBlock_27 rfl (by decide) ?_
        refine VW.isub (pc' := 29) d_Planner_topOfBlock_28 rfl (by omega) ?_
        refine VW.istore_n (pc' := 30) d_Planner_topOfBlock_29 rfl rfl ?_
        refine VW.iinc (pc' := 33) d_Planner_topOfBlock_30 rfl rfl rfl (by omega) ?_
        refine VW.goto (pc' := 14) d_Planner_topOfBlock_33 rfl ?_
        refine VW.pick [0, 1, 2] ?_
        have := i1Z e23Z
        first | exact this | (rw [show ((x + 1 : Nat) : Int) + -1 = ((x + 1 : Nat) : Int) - 1 by omega]; exact this)
  have l := loopZ n (Nat.le_refl _) rfl
  clear loopZ finZ
  have n1Z : I q 0 - 1 = (n : Int) := by omega
  have l2 : VW m_Planner_topOfBlock false (rmv 3 90) (ex K P J I (.inl (some (vI (tpR I q n))))) K P J I 0 0 14 [(0, vR (some q)), (1, vI (I q 0 - 1)), (2, vI (I q 0 - 1))] [] := by rw [n1Z]; exact l
  clear l
  refine VW.aload_n (pc' := 1) d_Planner_topOfBlock_0 rfl rfl ?_
  refine VW.gI (ci := 4) (T := T4) (N := 13) (k := 0) (k' := 0) (pc' := 4) d_Planner_topOfBlock_1 rfl lk_Planner_96 in4 rfl rfl rfl rfl (by first | exact hQ.k | exact hQ.k2 | exact hQ.k3 | exact hQ.k4 | exact hQ.k5 | exact hQ.k6) (by first | exact hQ.p2 | exact hQ.p3 | exact hQ.p4 | exact hQ.p5 | exact hQ.p6 | rfl) ?_
  refine VW.iconst (pc' := 5) d_Planner_topOfBlock_4 rfl (by decide) ?_
  refine VW.isub (pc' := 6) d_Planner_topOfBlock_5 rfl (by omega) ?_
  refine VW.istore_n (pc' := 7) d_Planner_topOfBlock_6 rfl rfl ?_
  refine VW.aload_n (pc' := 8) d_Planner_topOfBlock_7 rfl rfl ?_
  refine VW.gI (ci := 4) (T := T4) (N := 13) (k := 0) (k' := 0) (pc' := 11) d_Planner_topOfBlock_8 rfl lk_Planner_96 in4 rfl rfl rfl rfl (by first | exact hQ.k | exact hQ.k2 | exact hQ.k3 | exact hQ.k4 | exact hQ.k5 | exact hQ.k6) (by first | exact hQ.p2 | exact hQ.p3 | exact hQ.p4 | exact hQ.p5 | exact hQ.p6 | rfl) ?_
  refine VW.iconst (pc' := 12) d_Planner_topOfBlock_11 rfl (by decide) ?_
  refine VW.isub (pc' := 13) d_Planner_topOfBlock_12 rfl (by omega) ?_
  refine VW.istore_n (pc' := 14) d_Planner_topOfBlock_13 rfl rfl ?_
  refine VW.pick [0, 1, 2] ?_
  exact l2
/-- a division of an estimate -/
def clDiv (r d : Int) : Int := if 1 ≤ (if 0 < d then r.tdiv d else r) then (if 0 < d then r.tdiv d else r) else 1
end
