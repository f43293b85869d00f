/-! what is reached from an operator -/
section
variable {K : KT} {P : PT} {J I : IT} {q : Nat} {x : Int}
/-- an operator's operands are reached -/
def rcO (I : IT) (q : Nat) (x : Int) : IT := if I (q + 7) x = -1 then up2 (up2 I 1387 (I (q + 6) x) 1) 1388 (I (q + 6) x) (I 1388 x) else up2 (up2 (up2 (up2 I 1387 (I (q + 6) x) 1) 1388 (I (q + 6) x) (I 1388 x)) 1387 (I (q + 7) x) 1) 1388 (I (q + 7) x) (I 1388 x + I (q + 5) (I (q + 6) x))
theorem rcO_o {o : Nat} (h : o ≠ 1387) (h2 : o ≠ 1388) : rcO I q x o = I o := by
  funext z
  unfold rcO
  split
  · rw [up2_o _ _ _ _ h2, up2_o _ _ _ _ h]
  · rw [up2_o _ _ _ _ h2, up2_o _ _ _ _ h, up2_o _ _ _ _ h2, up2_o _ _ _ _ h]
theorem sp_Planner_reachOperands (hC : ClW K P) (hQ : QuW K P q) (hq : 10000 ≤ q) (hx : 0 ≤ x ∧ x < 12) (hf : 0 ≤ I (q + 6) x ∧ I (q + 6) x < x) (hs : -1 ≤ I (q + 7) x ∧ I (q + 7) x < x) (ho : 0 ≤ I 1388 x ∧ I 1388 x ≤ 1000) (hw : 0 ≤ I (q + 5) (I (q + 6) x) ∧ I (q + 5) (I (q + 6) x) ≤ 10) : Sp m_Planner_reachOperands false (rmv 2 60) (ex K P J (rcO I q x) (.inl none)) K P J I [vR (some 1384), vR (some q), vI x] := by
  have e1Z : ∀ z : Int, up2 I 1387 (I (q + 6) x) 1 1388 z = I 1388 z := fun z => up2_o _ _ _ _ (by decide)
  have e2Z : up2 (up2 I 1387 (I (q + 6) x) 1) 1388 (I (q + 6) x) (I 1388 x) 1388 x = I 1388 x := (up2_k _ _ _ _ (by omega)).trans (up2_o _ _ _ _ (by decide))
  have e3Z : up2 (up2 (up2 I 1387 (I (q + 6) x) 1) 1388 (I (q + 6) x) (I 1388 x)) 1387 (I (q + 7) x) 1 1388 x = I 1388 x := (up2_o _ _ _ _ (by decide)).trans e2Z
  have e4Z : up2 (up2 (up2 I 1387 (I (q + 6) x) 1) 1388 (I (q + 6) x) (I 1388 x)) 1387 (I (q + 7) x) 1 (q + 5) (I (q + 6) x) = I (q + 5) (I (q + 6) x) := (up2_o _ _ _ _ (by omega)).trans ((up2_o _ _ _ _ (by omega)).trans (up2_o _ _ _ _ (by omega)))
  have f0Z : I (q + 7) x = -1 → ex K P J (rcO I q x) (.inl none) (.inl none) K P J (up2 (up2 I 1387 (I (q + 6) x) 1) 1388 (I (q + 6) x) (I 1388 x)) := fun h => by
    unfold rcO; rw [if_pos h]; exact ex_rf
  have f1Z : I (q + 7) x ≠ -1 → ex K P J (rcO I q x) (.inl none) (.inl none) K P J (up2 (up2 (up2 (up2 I 1387 (I (q + 6) x) 1) 1388 (I (q + 6) x) (I 1388 x)) 1387 (I (q + 7) x) 1) 1388 (I (q + 7) x) (I 1388 x + I (q + 5) (I (q + 6) x))) := fun h => by
    unfold rcO; rw [if_neg h]; exact ex_rf
  refine Sp.ofV (by decide) (Or.inr rfl) rfl ?_
  refine VW.aload_n (pc' := 1) d_Planner_reachOperands_0 rfl rfl ?_
  refine VW.gP (ci := 4) (T := T4) (N := 13) (k := 5) (k' := 5) (pc' := 4) d_Planner_reachOperands_1 rfl lk_Planner_120 in4 rfl rfl rfl rfl (by first | exact hQ.k | exact hQ.k2 | exact hQ.k3 | exact hQ.k4 | exact hQ.k5 | exact hQ.k6 | exact hC.k 39 rfl | exact hC.k 42 rfl | exact hC.k 43 rfl) (by first | exact hQ.p2 | exact hQ.p3 | exact hQ.p4 | exact hQ.p5 | exact hQ.p6 | exact hC.p 44 rfl | exact hC.p 45 rfl | exact e1Z _ | exact e2Z | exact e3Z | exact e4Z | rfl) ?_
  refine VW.iload_n (pc' := 5) d_Planner_reachOperands_4 rfl rfl ?_
  refine VW.ild (pc' := 6) d_Planner_reachOperands_5 rfl (by first | exact hQ.k | exact hQ.k2 | exact hQ.k3 | exact hQ.k4 | exact hQ.k5 | exact hQ.k6 | exact hC.k 39 rfl | exact hC.k 42 rfl | exact hC.k 43 rfl) (by omega) (by omega) (by first | exact hQ.p2 | exact hQ.p3 | exact hQ.p4 | exact hQ.p5 | exact hQ.p6 | exact hC.p 44 rfl | exact hC.p 45 rfl | exact e1Z _ | exact e2Z | exact e3Z | exact e4Z | rfl) ?_
  refine VW.istore_n (pc' := 7) d_Planner_reachOperands_6 rfl rfl ?_
  refine VW.aload_n (pc' := 8) d_Planner_reachOperands_7 rfl rfl ?_
  refine VW.gP (ci := 4) (T := T4) (N := 13) (k := 6) (k' := 6) (pc' := 11) d_Planner_reachOperands_8 rfl lk_Planner_123 in4 rfl rfl rfl rfl (by first | exact hQ.k | exact hQ.k2 | exact hQ.k3 | exact hQ.k4 | exact hQ.k5 | exact hQ.k6 | exact hC.k 39 rfl | exact hC.k 42 rfl | exact hC.k 43 rfl) (by first | exact hQ.p2 | exact hQ.p3 | exact hQ.p4 | exact hQ.p5 | exact hQ.p6 | exact hC.p 44 rfl | exact hC.p 45 rfl | exact e1Z _ | exact e2Z | exact e3Z | exact e4Z | rfl) ?_
  refine VW.iload_n (pc' := 12) d_Planner_reachOperands_11 rfl rfl ?_
  refine VW.ild (pc' := 13) d_Planner_reachOperands_12 rfl (by first | exact hQ.k | exact hQ.k2 | exact hQ.k3 | exact hQ.k4 | exact hQ.k5 | exact hQ.k6 | exact hC.k 39 rfl | exact hC.k 42 rfl | exact hC.k 43 rfl) (by omega) (by omega) (by first | exact hQ.p2 | exact hQ.p3 | exact hQ.p4 | exact hQ.p5 | exact hQ.p6 | exact hC.p 44 rfl | exact hC.p 45 rfl | exact e1Z _ | exact e2Z | exact e3Z | exact e4Z | rfl) ?_
  refine VW.istore (pc' := 15) d_Planner_reachOperands_13 rfl rfl ?_
  refine VW.aload_n (pc' := 16) d_Planner_reachOperands_15 rfl rfl ?_
  refine VW.gP (ci := 3) (T := T3) (N := 14) (k := 2) (k' := 2) (pc' := 19) d_Planner_reachOperands_16 rfl lk_Planner_18 in3 rfl rfl rfl rfl (by first | exact hQ.k | exact hQ.k2 | exact hQ.k3 | exact hQ.k4 | exact hQ.k5 | exact hQ.k6 | exact hC.k 39 rfl | exact hC.k 42 rfl | exact hC.k 43 rfl) (by first | exact hQ.p2 | exact hQ.p3 | exact hQ.p4 | exact hQ.p5 | exact hQ.p6 | exact hC.p 44 rfl | exact hC.p 45 rfl | exact e1Z _ | exact e2Z | exact e3Z | exact e4Z | rfl) ?_
  refine VW.iload_n (pc' := 20) d_Planner_reachOperands_19 rfl rfl ?_
  refine VW.iconst (pc' := 21) d_Planner_reachOperands_20 rfl (by decide) ?_
  refine VW.zast (pc' := 22) d_Planner_reachOperands_21 rfl (by first | exact hQ.k | exact hQ.k2 | exact hQ.k3 | exact hQ.k4 | exact hQ.k5 | exact hQ.k6 | exact hC.k 39 rfl | exact hC.k 42 rfl | exact hC.k 43 rfl) (by omega) (by omega) (by omega) ?_
  refine VW.aload_n (pc' := 23) d_Planner_reachOperands_22 rfl rfl ?_
  refine VW.gP (ci := 3) (T := T3) (N := 14) (k := 3) (k' := 3) (pc' := 26) d_Planner_reachOperands_23 rfl lk_Planner_22 in3 rfl rfl rfl rfl (by first | exact hQ.k | exact hQ.k2 | exact hQ.k3 | exact hQ.k4 | exact hQ.k5 | exact hQ.k6 | exact hC.k 39 rfl | exact hC.k 42 rfl | exact hC.k 43 rfl) (by first | exact hQ.p2 | exact hQ.p3 | exact hQ.p4 | exact hQ.p5 | exact hQ.p6 | exact hC.p 44 rfl | exact hC.p 45 rfl | exact e1Z _ | exact e2Z | exact e3Z | exact e4Z | rfl) ?_
  refine VW.iload_n (pc' := 27) d_Planner_reachOperands_26 rfl rfl ?_
  refine VW.aload_n (pc' := 28) d_Planner_reachOperands_27 rfl rfl ?_
  refine VW.gP (ci := 3) (T := T3) (N := 14) (k := 3) (k' := 3) (pc' := 31) d_Planner_reachOperands_28 rfl lk_Planner_22 in3 rfl rfl rfl rfl (by first | exact hQ.k | exact hQ.k2 | exact hQ.k3 | exact hQ.k4 | exact hQ.k5 | exact hQ.k6 | exact hC.k 39 rfl | exact hC.k 42 rfl | exact hC.k 43 rfl) (by first | exact hQ.p2 | exact hQ.p3 | exact hQ.p4 | exact hQ.p5 | exact hQ.p6 | exact hC.p 44 rfl | exact hC.p 45 rfl | exact e1Z _ | exact e2Z | exact e3Z | exact e4Z | rfl) ?_
  refine VW.iload_n (pc' := 32) d_Planner_reachOperands_31 rfl rfl ?_
  refine VW.ild (pc' := 33) d_Planner_reachOperands_32 rfl (by first | exact hQ.k | exact hQ.k2 | exact hQ.k3 | exact hQ.k4 | exact hQ.k5 | exact hQ.k6 | exact hC.k 39 rfl | exact hC.k 42 rfl | exact hC.k 43 rfl) (by omega) (by omega) (by first | exact hQ.p2 | exact hQ.p3 | exact hQ.p4 | exact hQ.p5 | exact hQ.p6 | exact hC.p 44 rfl | exact hC.p 45 rfl | exact e1Z _ | exact e2Z | exact e3Z | exact e4Z | rfl) ?_
  refine VW.iast (pc' := 34) d_Planner_reachOperands_33 rfl (by first | exact hQ.k | exact hQ.k2 | exact hQ.k3 | exact hQ.k4 | exact hQ.k5 | exact hQ.k6 | exact hC.k 39 rfl | exact hC.k 42 rfl | exact hC.k 43 rfl) (by omega) (by omega) ?_
  refine VW.iload (pc' := 36) d_Planner_reachOperands_34 rfl rfl ?_
  refine VW.iconst (pc' := 37) d_Planner_reachOperands_36 rfl (by decide) ?_
  refine VW.icmp_eq (tgt := 68) (pc' := 40) d_Planner_reachOperands_37 rfl rfl (fun c37 => ?_) (fun c37 => ?_)
  · exact VW.vret d_Planner_reachOperands_68 rfl (Nat.zero_le _) (Nat.zero_le _) (by first | exact f0Z c37 | exact f1Z c37)
  · refine VW.aload_n (pc' := 41) d_Planner_reachOperands_40 rfl rfl ?_
    refine VW.gP (ci := 3) (T := T3) (N := 14) (k := 2) (k' := 2) (pc' := 44) d_Planner_reachOperands_41 rfl lk_Planner_18 in3 rfl rfl rfl rfl (by first | exact hQ.k | exact hQ.k2 | exact hQ.k3 | exact hQ.k4 | exact hQ.k5 | exact hQ.k6 | exact hC.k 39 rfl | exact hC.k 42 rfl | exact hC.k 43 rfl) (by first | exact hQ.p2 | exact hQ.p3 | exact hQ.p4 | exact hQ.p5 | exact hQ.p6 | exact hC.p 44 rfl | exact hC.p 45 rfl | exact e1Z _ | exact e2Z | exact e3Z | exact e4Z | rfl) ?_
    refine VW.iload (pc' := 46) d_Planner_reachOperands_44 rfl rfl ?_
    refine VW.iconst (pc' := 47) d_Planner_reachOperands_46 rfl (by decide) ?_
    refine VW.zast (pc' := 48) d_Planner_reachOperands_47 rfl (by first | exact hQ.k | exact hQ.k2 | exact hQ.k3 | exact hQ.k4 | exact hQ.k5 | exact hQ.k6 | exact hC.k 39 rfl | exact hC.k 42 rfl | exact hC.k 43 rfl) (by omega) (by omega) (by omega) ?_
    refine VW.aload_n (pc' := 49) d_Planner_reachOperands_48 rfl rfl ?_
    refine VW.gP (ci := 3) (T := T3) (N := 14) (k := 3) (k' := 3) (pc' := 52) d_Planner_reachOperands_49 rfl lk_Planner_22 in3 rfl rfl rfl rfl (by first | exact hQ.k | exact hQ.k2 | exact hQ.k3 | exact hQ.k4 | exact hQ.k5 | exact hQ.k6 | exact hC.k 39 rfl | exact hC.k 42 rfl | exact hC.k 43 rfl) (by first | exact hQ.p2 | exact hQ.p3 | exact hQ.p4 | exact hQ.p5 | exact hQ.p6 | exact hC.p 44 rfl | exact hC.p 45 rfl | exact e1Z _ | exact e2Z | exact e3Z | exact e4Z | rfl) ?_
    refine VW.iload (pc' := 54) d_Planner_reachOperands_52 rfl rfl ?_
    refine VW.aload_n (pc' := 55) d_Planner_reachOperands_54 rfl rfl ?_
    refine VW.gP (ci := 3) (T := T3) (N := 14) (k := 3) (k' := 3) (pc' := 58) d_Planner_reachOperands_55 rfl lk_Planner_22 in3 rfl rfl rfl rfl (by first | exact hQ.k | exact hQ.k2 | exact hQ.k3 | exact hQ.k4 | exact hQ.k5 | exact hQ.k6 | exact hC.k 39 rfl | exact hC.k 42 rfl | exact hC.k 43 rfl) (by first | exact hQ.p2 | exact hQ.p3 | exact hQ.p4 | exact hQ.p5 | exact hQ.p6 | exact hC.p 44 rfl | exact hC.p 45 rfl | exact e1Z _ | exact e2Z | exact e3Z | exact e4Z | rfl) ?_
    refine VW.iload_n (pc' := 59) d_Planner_reachOperands_58 rfl rfl ?_
    refine VW.ild (pc' := 60) d_Planner_reachOperands_59 rfl (by first | exact hQ.k | exact hQ.k2 | exact hQ.k3 | exact hQ.k4 | exact hQ.k5 | exact hQ.k6 | exact hC.k 39 rfl | exact hC.k 42 rfl | exact hC.k 43 rfl) (by omega) (by omega) (by first | exact hQ.p2 | exact hQ.p3 | exact hQ.p4 | exact hQ.p5 | exact hQ.p6 | exact hC.p 44 rfl | exact hC.p 45 rfl | exact e1Z _ | exact e2Z | exact e3Z | exact e4Z | rfl) ?_
    refine VW.aload_n (pc' := 61) d_Planner_reachOperands_60 rfl rfl ?_
    refine VW.gP (ci := 4) (T := T4) (N := 13) (k := 4) (k' := 4) (pc' := 64) d_Planner_reachOperands_61 rfl lk_Planner_126 in4 rfl rfl rfl rfl (by first | exact hQ.k | exact hQ.k2 | exact hQ.k3 | exact hQ.k4 | exact hQ.k5 | exact hQ.k6 | exact hC.k 39 rfl | exact hC.k 42 rfl | exact hC.k 43 rfl) (by first | exact hQ.p2 | exact hQ.p3 | exact hQ.p4 | exact hQ.p5 | exact hQ.p6 | exact hC.p 44 rfl | exact hC.p 45 rfl | exact e1Z _ | exact e2Z | exact e3Z | exact e4Z | rfl) ?_
    refine VW.iload_n (pc' := 65) d_Planner_reachOperands_64 rfl rfl ?_
    refine VW.ild (pc' := 66) d_Planner_reachOperands_65 rfl (by first | exact hQ.k | exact hQ.k2 | exact hQ.k3 | exact hQ.k4 | exact hQ.k5 | exact hQ.k6 | exact hC.k 39 rfl | exact hC.k 42 rfl | exact hC.k 43 rfl) (by omega) (by omega) (by first | exact hQ.p2 | exact hQ.p3 | exact hQ.p4 | exact hQ.p5 | exact hQ.p6 | exact hC.p 44 rfl | exact hC.p 45 rfl | exact e1Z _ | exact e2Z | exact e3Z | exact e4Z | rfl) ?_
    refine VW.iadd (pc' := 67) d_Planner_reachOperands_66 rfl (by omega) ?_
    refine VW.iast (pc' := 68) d_Planner_reachOperands_67 rfl (by first | exact hQ.k | exact hQ.k2 | exact hQ.k3 | exact hQ.k4 | exact hQ.k5 | exact hQ.k6 | exact hC.k 39 rfl | exact hC.k 42 rfl | exact hC.k 43 rfl) (by omega) (by omega) ?_
    exact VW.vret d_Planner_reachOperands_68 rfl (Nat.zero_le _) (Nat.zero_le _) (by first | exact f0Z c37 | exact f1Z c37)
/-- the operators below n, the highest first -/
noncomputable def rcL (q : Nat) : Nat → IT → IT
  | 0, S => S
  | n + 1, S => rcL q n (if S 1387 n ≠ 0 ∧ bI (quBlk S q n) = 1 then rcO S q n else S)
noncomputable def rcI (I : IT) (q : Nat) (top : Nat) : IT := rcL q (top + 1) (up2 (up2 (filI I 1387 0 12 0) 1387 top 1) 1388 top 0)
/-- what reaching asks of a query: operands stand before their operator -/
def RcOK (I : IT) (q n : Nat) : Prop := ∀ x : Int, 0 ≤ x → x < n → (quBlk I q x → (0 ≤ I (q + 6) x ∧ I (q + 6) x < x) ∧ -1 ≤ I (q + 7) x ∧ I (q + 7) x < x) ∧ 0 ≤ I (q + 5) x ∧ I (q + 5) x ≤ 10
theorem quBlk_of {I' : IT} (h3 : I' (q + 3) = I (q + 3)) (h4 : I' (q + 4) = I (q + 4)) : quBlk I' q x ↔ quBlk I q x := by
  unfold quBlk quInn quFlt
  rw [h3, h4]
theorem sp_Planner_reach {top : Nat} (hC : ClW K P) (hQ : QuW K P q) (hq : 10000 ≤ q) (ht : top < 12) (hr : RcOK I q (top + 1)) : Sp m_Planner_reach false (rmv 4 170) (ex K P J (rcI I q top) (.inl none)) K P J I [vR (some 1384), vR (some q), vI (top : Int)] := by
  refine Sp.ofV (by decide) (Or.inr rfl) rfl ?_
  have loopZ : ∀ (nZ : Nat) (SZZ : IT), nZ ≤ top + 1 → (∀ o, o ≠ 1387 → o ≠ 1388 → SZZ o = I o) → (∀ zZ : Int, 0 ≤ zZ → zZ < 12 → SZZ 1387 zZ = 0 ∨ SZZ 1387 zZ = 1) → (∀ zZ : Int, 0 ≤ zZ → zZ < nZ → SZZ 1387 zZ ≠ 0 → 0 ≤ SZZ 1388 zZ ∧ SZZ 1388 zZ ≤ 10 * (top - nZ + 1)) → rcL q nZ SZZ = rcI I q top → VW m_Planner_reach false (rmv 4 170) (ex K P J (rcI I q top) (.inl none)) K P J (SZZ) 0 0 37 [(0, vR (some 1384)), (1, vR (some q)), (3, vI ((nZ : Int) - 1))] [] := by
    intro nZ
    induction nZ with
    | zero =>
      intro SZZ hn ho hbZ hz he
      have finZ : ex K P J (rcI I q top) (.inl none) (.inl none) K P J SZZ := by
        rw [← he]; exact ex_rf
      refine VW.iload_n (pc' := 38) d_Planner_reach_37 rfl rfl ?_
      refine VW.if_lt (tgt := 70) (pc' := 41) d_Planner_reach_38 rfl rfl (fun c38 => ?_) (fun c38 => ?_)
      case refine_2 => exact absurd c38 (by omega)
      exact VW.vret d_Planner_reach_70 rfl (Nat.zero_le _) (Nat.zero_le _) (finZ)
    | succ nZ ihZ =>
      intro SZZ hn ho hbZ hz he
      have en : ((nZ + 1 : Nat) : Int) - 1 = nZ := by omega
      have en2 : (nZ : Int) - 1 = (nZ : Int) + -1 := by omega
      rw [en]
      have n12 : 0 ≤ (nZ : Int) ∧ (nZ : Int) < 12 := by omega
      have b1 := hbZ nZ n12.1 n12.2
      have spI := sp_Planner_isInner (J := J) (I := SZZ) (K := K) (P := P) (x := (nZ : Int)) hQ n12
      have qe : quBlk SZZ q nZ ↔ quBlk I q nZ := quBlk_of (ho _ (by omega) (by omega)) (ho _ (by omega) (by omega))
      have noZ : ¬ (SZZ 1387 nZ ≠ 0 ∧ quBlk SZZ q nZ) → VW m_Planner_reach false (rmv 4 170) (ex K P J (rcI I q top) (.inl none)) K P J (SZZ) 0 0 37 [(0, vR (some 1384)), (1, vR (some q)), (3, vI ((nZ : Int) + -1))] [] := fun h => by
        have := ihZ SZZ (by omega) ho hbZ (fun zZ z0 z1 z2 => by have := hz zZ z0 (by omega) z2; omega) (by
          rw [← he]
          show _ = rcL q nZ (if SZZ 1387 nZ ≠ 0 ∧ bI (quBlk SZZ q nZ) = 1 then rcO SZZ q nZ else SZZ)
          rw [if_neg (fun zZ => h ⟨zZ.1, bIn (by rw [zZ.2]; decide)⟩)])
        rw [en2] at this
        exact this
      have yesZ : SZZ 1387 nZ ≠ 0 → quBlk SZZ q nZ → VW m_Planner_reach false (rmv 4 170) (ex K P J (rcI I q top) (.inl none)) K P J (rcO SZZ q nZ) 0 0 37 [(0, vR (some 1384)), (1, vR (some q)), (3, vI ((nZ : Int) + -1))] [] ∧ Sp m_Planner_reachOperands false (rmv 2 60) (ex K P J (rcO SZZ q nZ) (.inl none)) K P J SZZ [vR (some 1384), vR (some q), vI (nZ : Int)] := fun h1 h2 => by
        obtain ⟨r1Z, r2⟩ := (hr nZ n12.1 (by omega)).1 (qe.mp h2)
        have wZ := (hr (I (q + 6) nZ) r1Z.1 (by omega)).2
        have s6Z : SZZ (q + 6) = I (q + 6) := ho _ (by omega) (by omega)
        have s7 : SZZ (q + 7) = I (q + 7) := ho _ (by omega) (by omega)
        have s5 : SZZ (q + 5) = I (q + 5) := ho _ (by omega) (by omega)
        have z0 := hz nZ n12.1 (by omega) h1
        refine ⟨?_, sp_Planner_reachOperands hC hQ hq n12 (by rw [s6Z]; exact r1Z) (by rw [s7]; exact r2) ⟨z0.1, by omega⟩ (by rw [s6Z, s5]; exact wZ)⟩
        have := ihZ (rcO SZZ q nZ) (by omega) (fun o a b => (rcO_o a b).trans (ho o a b)) (fun zZ a b => ?_) (fun zZ a b c => ?_) (by
          rw [← he]
          show _ = rcL q nZ (if SZZ 1387 nZ ≠ 0 ∧ bI (quBlk SZZ q nZ) = 1 then rcO SZZ q nZ else SZZ)
          rw [if_pos ⟨h1, bI1 h2⟩])
        · rw [en2] at this
          exact this
        · have hzb := hbZ zZ a b
          unfold rcO
          split
          · rw [up2_o _ _ _ _ (by decide), up2_if]
            split
            · exact Or.inr rfl
            · exact hzb
          · rw [up2_o _ _ _ _ (by decide), up2_if, up2_o _ _ _ _ (by decide), up2_if]
            split
            · exact Or.inr rfl
            · split
              · exact Or.inr rfl
              · exact hzb
        · have hzz := hz zZ a (by omega)
          unfold rcO at c ⊢
          rw [s6Z, s7, s5] at c ⊢
          split
          · next eZ =>
            rw [if_pos eZ, up2_o _ _ _ _ (by decide), up2_if] at c
            rw [up2_if, up2_o _ _ _ _ (by decide)]
            by_cases yZ : zZ = I (q + 6) nZ
            · rw [if_pos yZ]; omega
            · rw [if_neg yZ] at c ⊢
              have := hzz c; omega
          · next eZ =>
            rw [if_neg eZ, up2_o _ _ _ _ (by decide), up2_if, up2_o _ _ _ _ (by decide), up2_if] at c
            rw [up2_if, up2_o _ _ _ _ (by decide), up2_if, up2_o _ _ _ _ (by decide)]
            by_cases yZ : zZ = I (q + 7) nZ
            · rw [if_pos yZ]; omega
            · rw [if_neg yZ] at c ⊢
              by_cases x : zZ = I (q + 6) nZ
              · rw [if_pos x]; omega
              · rw [if_neg x] at c ⊢
                have := hzz c; omega
      clear ihZ
      refine VW.iload_n (pc' := 38) d_Planner_reach_37 rfl rfl ?_
      refine VW.if_lt (tgt := 70) (pc' := 41) d_Planner_reach_38 rfl rfl (fun c38 => ?_) (fun c38 => ?_)
      case refine_1 => exact absurd c38 (by omega)
      refine VW.aload_n (pc' := 42) d_Planner_reach_41 rfl rfl ?_
      refine VW.gP (ci := 3) (T := T3) (N := 14) (k := 2) (k' := 2) (pc' := 45) d_Planner_reach_42 rfl lk_Planner_18 in3 rfl rfl rfl rfl (by first | exact hQ.k | exact hQ.k2 | exact hQ.k3 | exact hQ.k4 | exact hQ.k5 | exact hQ.k6 | exact hC.k 39 rfl | exact hC.k 42 rfl | exact hC.k 43 rfl) (by first | exact hQ.p2 | exact hQ.p3 | exact hQ.p4 | exact hQ.p5 | exact hQ.p6 | exact hC.p 44 rfl | exact hC.p 45 rfl | rfl) ?_
      refine VW.iload_n (pc' := 46) d_Planner_reach_45 rfl rfl ?_
      refine VW.zld (pc' := 47) d_Planner_reach_46 rfl (by first | exact hQ.k | exact hQ.k2 | exact hQ.k3 | exact hQ.k4 | exact hQ.k5 | exact hQ.k6 | exact hC.k 39 rfl | exact hC.k 42 rfl | exact hC.k 43 rfl) (by omega) (by omega) (by first | exact hQ.p2 | exact hQ.p3 | exact hQ.p4 | exact hQ.p5 | exact hQ.p6 | exact hC.p 44 rfl | exact hC.p 45 rfl | rfl) ?_
      refine VW.if_eq (tgt := 64) (pc' := 50) d_Planner_reach_47 rfl rfl (fun c47 => ?_) (fun c47 => ?_)
      · try have e47 := bIe c47
        refine VW.iinc (pc' := 67) d_Planner_reach_64 rfl rfl rfl (by omega) ?_
        refine VW.goto (pc' := 37) d_Planner_reach_67 rfl ?_
        refine VW.pick [0, 1, 3] ?_
        first | exact (yesZ c47 e55).1 | exact noZ (fun zZ => zZ.1 c47) | exact noZ (fun zZ => e55 zZ.2)
      · try have e47 := bIn c47
        refine VW.aload_n (pc' := 51) d_Planner_reach_50 rfl rfl ?_
        refine VW.iload_n (pc' := 52) d_Planner_reach_51 rfl rfl ?_
        refine VW.cS (pc' := 55) d_Planner_reach_52 rfl ms_Planner_isInner lk_Planner_114 rfl rfl rfl (Nat.le_refl _) (Nat.le_refl _) (spI) rfl rfl ?_
        refine VW.if_eq (tgt := 64) (pc' := 58) d_Planner_reach_55 rfl rfl (fun c55 => ?_) (fun c55 => ?_)
        · try have e55 := bIe c55
          refine VW.iinc (pc' := 67) d_Planner_reach_64 rfl rfl rfl (by omega) ?_
          refine VW.goto (pc' := 37) d_Planner_reach_67 rfl ?_
          refine VW.pick [0, 1, 3] ?_
          first | exact (yesZ c47 e55).1 | exact noZ (fun zZ => zZ.1 c47) | exact noZ (fun zZ => e55 zZ.2)
        · try have e55 := bIn c55
          refine VW.aload_n (pc' := 59) d_Planner_reach_58 rfl rfl ?_
          refine VW.aload_n (pc' := 60) d_Planner_reach_59 rfl rfl ?_
          refine VW.iload_n (pc' := 61) d_Planner_reach_60 rfl rfl ?_
          refine VW.cV (ci := 3) (T := T3) (N := 14) (pc' := 64) d_Planner_reach_61 rfl mv_Planner_reachOperands lk_Planner_117 rfl (by first | exact hQ.k | exact hQ.k2 | exact hQ.k3 | exact hQ.k4 | exact hQ.k5 | exact hQ.k6 | exact hC.k 39 rfl | exact hC.k 42 rfl | exact hC.k 43 rfl) rfl rfl rfl (Nat.le_refl _) (Nat.le_refl _) ((yesZ c47 e55).2) rfl rfl ?_
          refine VW.iinc (pc' := 67) d_Planner_reach_64 rfl rfl rfl (by omega) ?_
          refine VW.goto (pc' := 37) d_Planner_reach_67 rfl ?_
          refine VW.pick [0, 1, 3] ?_
          first | exact (yesZ c47 e55).1 | exact noZ (fun zZ => zZ.1 c47) | exact noZ (fun zZ => e55 zZ.2)
  have l := loopZ (top + 1) (up2 (up2 (filI I 1387 0 12 0) 1387 top 1) 1388 top 0) (Nat.le_refl _) (fun o a b => funext (fun zZ => by rw [up2_o _ _ _ _ b, up2_o _ _ _ _ a, filI_fr a])) (fun zZ a b => by
    rw [up2_o _ _ _ _ (by decide), up2_if]
    split
    · exact Or.inr rfl
    · exact Or.inl (if_pos ⟨rfl, a, b⟩)) (fun zZ a b c => by
    rw [up2_if]
    split
    · omega
    · next eZ =>
      rw [up2_o _ _ _ _ (by decide), up2_if, if_neg eZ] at c
      exact absurd (if_pos ⟨rfl, a, by omega⟩) c) rfl
  rw [show ((top + 1 : Nat) : Int) - 1 = top by omega] at l
  clear loopZ
  have fillZ : ∀ (mZ zZ : Nat), zZ + mZ = 12 → VW m_Planner_reach false (rmv 4 170) (ex K P J (rcI I q top) (.inl none)) K P J (filI I 1387 0 (zZ : Int) 0) 0 0 2 [(0, vR (some 1384)), (1, vR (some q)), (2, vI (top : Int)), (3, vI (zZ : Int))] [] := by
    intro mZ
    induction mZ with
    | zero =>
      intro zZ hz
      have ez : zZ = 12 := by omega
      subst ez
      refine VW.iload_n (pc' := 3) d_Planner_reach_2 rfl rfl ?_
      refine VW.bipush (pc' := 5) d_Planner_reach_3 rfl (by decide) ?_
      refine VW.icmp_ge (tgt := 21) (pc' := 8) d_Planner_reach_5 rfl rfl (fun c5 => ?_) (fun c5 => ?_)
      · refine VW.aload_n (pc' := 22) d_Planner_reach_21 rfl rfl ?_
        refine VW.gP (ci := 3) (T := T3) (N := 14) (k := 2) (k' := 2) (pc' := 25) d_Planner_reach_22 rfl lk_Planner_18 in3 rfl rfl rfl rfl (by first | exact hQ.k | exact hQ.k2 | exact hQ.k3 | exact hQ.k4 | exact hQ.k5 | exact hQ.k6 | exact hC.k 39 rfl | exact hC.k 42 rfl | exact hC.k 43 rfl) (by first | exact hQ.p2 | exact hQ.p3 | exact hQ.p4 | exact hQ.p5 | exact hQ.p6 | exact hC.p 44 rfl | exact hC.p 45 rfl | rfl) ?_
        refine VW.iload_n (pc' := 26) d_Planner_reach_25 rfl rfl ?_
        refine VW.iconst (pc' := 27) d_Planner_reach_26 rfl (by decide) ?_
        refine VW.zast (pc' := 28) d_Planner_reach_27 rfl (by first | exact hQ.k | exact hQ.k2 | exact hQ.k3 | exact hQ.k4 | exact hQ.k5 | exact hQ.k6 | exact hC.k 39 rfl | exact hC.k 42 rfl | exact hC.k 43 rfl) (by omega) (by omega) (by omega) ?_
        refine VW.aload_n (pc' := 29) d_Planner_reach_28 rfl rfl ?_
        refine VW.gP (ci := 3) (T := T3) (N := 14) (k := 3) (k' := 3) (pc' := 32) d_Planner_reach_29 rfl lk_Planner_22 in3 rfl rfl rfl rfl (by first | exact hQ.k | exact hQ.k2 | exact hQ.k3 | exact hQ.k4 | exact hQ.k5 | exact hQ.k6 | exact hC.k 39 rfl | exact hC.k 42 rfl | exact hC.k 43 rfl) (by first | exact hQ.p2 | exact hQ.p3 | exact hQ.p4 | exact hQ.p5 | exact hQ.p6 | exact hC.p 44 rfl | exact hC.p 45 rfl | rfl) ?_
        refine VW.iload_n (pc' := 33) d_Planner_reach_32 rfl rfl ?_
        refine VW.iconst (pc' := 34) d_Planner_reach_33 rfl (by decide) ?_
        refine VW.iast (pc' := 35) d_Planner_reach_34 rfl (by first | exact hQ.k | exact hQ.k2 | exact hQ.k3 | exact hQ.k4 | exact hQ.k5 | exact hQ.k6 | exact hC.k 39 rfl | exact hC.k 42 rfl | exact hC.k 43 rfl) (by omega) (by omega) ?_
        refine VW.iload_n (pc' := 36) d_Planner_reach_35 rfl rfl ?_
        refine VW.istore_n (pc' := 37) d_Planner_reach_36 rfl rfl ?_
        refine VW.pick [0, 1, 3] ?_
        exact l
      · exfalso; omega
    | succ mZ ihZ =>
      intro zZ hz
      have i1Z := ihZ (zZ + 1) (by omega)
      rw [show ((zZ + 1 : Nat) : Int) = (zZ : Int) + 1 by omega, ← filI_step (by omega)] at i1Z
      clear ihZ
      refine VW.iload_n (pc' := 3) d_Planner_reach_2 rfl rfl ?_
      refine VW.bipush (pc' := 5) d_Planner_reach_3 rfl (by decide) ?_
      refine VW.icmp_ge (tgt := 21) (pc' := 8) d_Planner_reach_5 rfl rfl (fun c5 => ?_) (fun c5 => ?_)
      · exfalso; omega
      · refine VW.aload_n (pc' := 9) d_Planner_reach_8 rfl rfl ?_
        refine VW.gP (ci := 3) (T := T3) (N := 14) (k := 2) (k' := 2) (pc' := 12) d_Planner_reach_9 rfl lk_Planner_18 in3 rfl rfl rfl rfl (by first | exact hQ.k | exact hQ.k2 | exact hQ.k3 | exact hQ.k4 | exact hQ.k5 | exact hQ.k6 | exact hC.k 39 rfl | exact hC.k 42 rfl | exact hC.k 43 rfl) (by first | exact hQ.p2 | exact hQ.p3 | exact hQ.p4 | exact hQ.p5 | exact hQ.p6 | exact hC.p 44 rfl | exact hC.p 45 rfl | rfl) ?_
        refine VW.iload_n (pc' := 13) d_Planner_reach_12 rfl rfl ?_
        refine VW.iconst (pc' := 14) d_Planner_reach_13 rfl (by decide) ?_
        refine VW.zast (pc' := 15) d_Planner_reach_14 rfl (by first | exact hQ.k | exact hQ.k2 | exact hQ.k3 | exact hQ.k4 | exact hQ.k5 | exact hQ.k6 | exact hC.k 39 rfl | exact hC.k 42 rfl | exact hC.k 43 rfl) (by omega) (by omega) (by omega) ?_
        refine VW.iinc (pc' := 18) d_Planner_reach_15 rfl rfl rfl (by omega) ?_
        refine VW.goto (pc' := 2) d_Planner_reach_18 rfl ?_
        refine VW.pick [0, 1, 2, 3] ?_
        exact i1Z
  have fZ := fillZ 12 0 rfl
  rw [show filI I 1387 0 ((0 : Nat) : Int) 0 = I from filI_0 (by decide)] at fZ
  clear fillZ l
  refine VW.iconst (pc' := 1) d_Planner_reach_0 rfl (by decide) ?_
  refine VW.istore_n (pc' := 2) d_Planner_reach_1 rfl rfl ?_
  refine VW.pick [0, 1, 2, 3] ?_
  exact fZ
end
