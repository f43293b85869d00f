/-! the leaves of a block, as the class describes them -/
section
variable {K : KT} {P : PT} {J I S : IT} {q : Nat} {x : Int}
theorem sp_Planner_divided {v b : Int} (hv : 0 ≤ v ∧ v ≤ 1000000000) (hb : 0 ≤ b) : Sp m_Planner_divided false (rmv 1 30) (ex K P J I (.inl (some (vI (mDiv v b))))) K P J I [vI v, vI b] := by
  have rb : 0 < b → 0 ≤ v.tdiv b ∧ v.tdiv b ≤ v := fun h => ⟨Int.tdiv_nonneg hv.1 hb, by
    rw [Int.tdiv_eq_ediv_of_nonneg hv.1]; exact Int.ediv_le_self _ hv.1⟩
  have f1Z : ∀ z : Int, (if b = 0 then v else v.tdiv b) = z → ex K P J I (.inl (some (vI (mDiv v b)))) (.inl (some (vI (if (1 : Int) < z then z else 1)))) K P J I := fun z hz => by
    have eZ : mDiv v b = if (1 : Int) < z then z else 1 := by
      unfold mDiv
      by_cases b0 : b = 0
      · rw [if_pos b0] at hz ⊢
        rw [Int.tdiv_one, hz]
        by_cases yZ : z < 1
        · rw [if_pos yZ, if_neg (by omega)]
        · rw [if_neg yZ]
          split <;> omega
      · rw [if_neg b0] at hz ⊢
        rw [hz]
        by_cases yZ : z < 1
        · rw [if_pos yZ, if_neg (by omega)]
        · rw [if_neg yZ]
          split <;> omega
    rw [eZ]; exact ex_rf
  refine Sp.ofV (by decide) (Or.inr rfl) rfl ?_
  refine VW.iconst (pc' := 1) d_Planner_divided_0 rfl (by decide) ?_
  refine VW.iload_n (pc' := 2) d_Planner_divided_1 rfl rfl ?_
  refine VW.if_le (tgt := 11) (pc' := 5) d_Planner_divided_2 rfl rfl (fun c2 => ?_) (fun c2 => ?_)
  · refine VW.iload_n (pc' := 12) d_Planner_divided_11 rfl rfl ?_
    refine VW.mm (pc' := 15) true rfl d_Planner_divided_12 rfl lk_Planner_137 rfl rfl (Nat.zero_le _) (Nat.zero_le _) ?_
    exact VW.iret d_Planner_divided_15 rfl rfl (Nat.zero_le _) (Nat.zero_le _) (f1Z _ (by first | exact if_neg (by omega) | exact if_pos (by omega)))
  · refine VW.iload_n (pc' := 6) d_Planner_divided_5 rfl rfl ?_
    refine VW.iload_n (pc' := 7) d_Planner_divided_6 rfl rfl ?_
    refine VW.idiv (pc' := 8) d_Planner_divided_7 rfl (by omega) (by have wZ := rb (by omega); omega) ?_
    refine VW.goto (pc' := 12) d_Planner_divided_8 rfl ?_
    refine VW.mm (pc' := 15) true rfl d_Planner_divided_12 rfl lk_Planner_137 rfl rfl (Nat.zero_le _) (Nat.zero_le _) ?_
    exact VW.iret d_Planner_divided_15 rfl rfl (Nat.zero_le _) (Nat.zero_le _) (f1Z _ (by first | exact if_neg (by omega) | exact if_pos (by omega)))
/-- the columns of a leaf: whose they are, their values -/
def dcE (S : IT) (f l : Int) (v : Int → Int) : Nat → IT
  | 0 => S
  | c + 1 => up2 (up2 (dcE S f l v c) 1392 (f + c) l) 1393 (f + c) (v c)
theorem dcE_o {f l : Int} {v : Int → Int} {o : Nat} (h : o ≠ 1392) (h2 : o ≠ 1393) : ∀ c, dcE S f l v c o = S o := by
  intro c
  induction c with
  | zero => rfl
  | succ c ihZ => exact funext (fun z => (up2_o _ _ _ _ h2).trans ((up2_o _ _ _ _ h).trans (congrFun ihZ z)))
def dlV (S : IT) (b t : Int) (c : Int) : Int := if b = 0 then 10 else S 1386 (t * 4 + c)
theorem dl_cols {Q : PQ} {b t : Int} {w : Nat} (hC : ClW K P) (hQ : QuW K P q) (hq : 10000 ≤ q) (hx : 0 ≤ x ∧ x < 12) (hf : 0 ≤ S 1388 x ∧ S 1388 x + w ≤ 10) (hw : S (q + 5) x = w) (hl : 0 ≤ S 1384 4 ∧ S 1384 4 < 3) (ht : 0 ≤ t ∧ t < 6) (hb : b = 0 ∨ w ≤ 4)
    (kk : VW m_Planner_describeLeaves false (rmv 4 200) Q K P J (dcE S (S 1388 x) (S 1384 4) (dlV S b t) w) 0 0 179 [(0, vR (some 1384)), (1, vR (some q)), (2, vI x)] []) : ∀ m c : Nat, c + m = w → VW m_Planner_describeLeaves false (rmv 4 200) Q K P J (dcE S (S 1388 x) (S 1384 4) (dlV S b t) c) 0 0 112 [(0, vR (some 1384)), (1, vR (some q)), (2, vI x), (3, vI b), (4, vI t), (5, vI (c : Int))] [] := by
  intro m
  induction m with
  | zero =>
    intro c hcZ
    have ec : c = w := by omega
    subst ec
    have w5 : dcE S (S 1388 x) (S 1384 4) (dlV S b t) c (q + 5) x = c := by rw [dcE_o (by omega) (by omega)]; exact hw
    refine VW.iload (pc' := 114) d_Planner_describeLeaves_112 rfl rfl ?_
    refine VW.aload_n (pc' := 115) d_Planner_describeLeaves_114 rfl rfl ?_
    refine VW.gP (ci := 4) (T := T4) (N := 13) (k := 4) (k' := 4) (pc' := 118) d_Planner_describeLeaves_115 rfl lk_Planner_126 in4 rfl rfl rfl rfl (by first | exact hQ.k | exact hQ.k2 | exact hQ.k3 | exact hQ.k4 | exact hQ.k5 | exact hQ.k6 | exact hC.k 39 rfl | exact hC.k 40 rfl | exact hC.k 41 rfl | exact hC.k 42 rfl | exact hC.k 43 rfl | exact hC.k 44 rfl | exact hC.k 45 rfl | exact hC.k 46 rfl | exact hC.k 47 rfl) (by first | exact hQ.p2 | exact hQ.p3 | exact hQ.p4 | exact hQ.p5 | exact hQ.p6 | exact hC.p 42 rfl | exact hC.p 43 rfl | exact hC.p 44 rfl | exact hC.p 45 rfl | exact hC.p 46 rfl | exact hC.p 47 rfl | exact hC.p 48 rfl | exact hC.p 49 rfl | exact w5 | exact w1Z | exact w4Z | exact w2Z _ | rfl) ?_
    refine VW.iload_n (pc' := 119) d_Planner_describeLeaves_118 rfl rfl ?_
    refine VW.ild (pc' := 120) d_Planner_describeLeaves_119 rfl (by first | exact hQ.k | exact hQ.k2 | exact hQ.k3 | exact hQ.k4 | exact hQ.k5 | exact hQ.k6 | exact hC.k 39 rfl | exact hC.k 40 rfl | exact hC.k 41 rfl | exact hC.k 42 rfl | exact hC.k 43 rfl | exact hC.k 44 rfl | exact hC.k 45 rfl | exact hC.k 46 rfl | exact hC.k 47 rfl) (by omega) (by omega) (by first | exact hQ.p2 | exact hQ.p3 | exact hQ.p4 | exact hQ.p5 | exact hQ.p6 | exact hC.p 42 rfl | exact hC.p 43 rfl | exact hC.p 44 rfl | exact hC.p 45 rfl | exact hC.p 46 rfl | exact hC.p 47 rfl | exact hC.p 48 rfl | exact hC.p 49 rfl | exact w5 | exact w1Z | exact w4Z | exact w2Z _ | rfl) ?_
    refine VW.icmp_ge (tgt := 179) (pc' := 123) d_Planner_describeLeaves_120 rfl rfl (fun c120 => ?_) (fun c120 => ?_)
    case refine_2 => exact absurd c120 (by omega)
    refine VW.pick [0, 1, 2] ?_
    exact kk
  | succ m ihZ =>
    intro c hcZ
    have i1Z := ihZ (c + 1) (by omega)
    have w5 : dcE S (S 1388 x) (S 1384 4) (dlV S b t) c (q + 5) x = w := by rw [dcE_o (by omega) (by omega)]; exact hw
    have w1Z : dcE S (S 1388 x) (S 1384 4) (dlV S b t) c 1388 x = S 1388 x := by rw [dcE_o (by decide) (by decide)]
    have w4Z : dcE S (S 1388 x) (S 1384 4) (dlV S b t) c 1384 4 = S 1384 4 := by rw [dcE_o (by decide) (by decide)]
    have w2Z : ∀ z, up2 (dcE S (S 1388 x) (S 1384 4) (dlV S b t) c) 1392 (S 1388 x + c) (S 1384 4) 1386 z = S 1386 z := fun z => (up2_o _ _ _ _ (by decide)).trans (congrFun (dcE_o (by decide) (by decide) c) z)
    rw [show ((c + 1 : Nat) : Int) = (c : Int) + 1 by omega] at i1Z
    have d1Z : dcE S (S 1388 x) (S 1384 4) (dlV S b t) (c + 1) = up2 (up2 (dcE S (S 1388 x) (S 1384 4) (dlV S b t) c) 1392 (S 1388 x + c) (S 1384 4)) 1393 (S 1388 x + c) (dlV S b t c) := rfl
    have z0 : b = 0 → dlV S b t c = 10 := fun y => if_pos y
    have z1 : b ≠ 0 → dlV S b t c = S 1386 (t * 4 + c) := fun y => if_neg y
    rw [d1Z] at i1Z
    clear ihZ d1Z kk
    refine VW.iload (pc' := 114) d_Planner_describeLeaves_112 rfl rfl ?_
    refine VW.aload_n (pc' := 115) d_Planner_describeLeaves_114 rfl rfl ?_
    refine VW.gP (ci := 4) (T := T4) (N := 13) (k := 4) (k' := 4) (pc' := 118) d_Planner_describeLeaves_115 rfl lk_Planner_126 in4 rfl rfl rfl rfl (by first | exact hQ.k | exact hQ.k2 | exact hQ.k3 | exact hQ.k4 | exact hQ.k5 | exact hQ.k6 | exact hC.k 39 rfl | exact hC.k 40 rfl | exact hC.k 41 rfl | exact hC.k 42 rfl | exact hC.k 43 rfl | exact hC.k 44 rfl | exact hC.k 45 rfl | exact hC.k 46 rfl | exact hC.k 47 rfl) (by first | exact hQ.p2 | exact hQ.p3 | exact hQ.p4 | exact hQ.p5 | exact hQ.p6 | exact hC.p 42 rfl | exact hC.p 43 rfl | exact hC.p 44 rfl | exact hC.p 45 rfl | exact hC.p 46 rfl | exact hC.p 47 rfl | exact hC.p 48 rfl | exact hC.p 49 rfl | exact w5 | exact w1Z | exact w4Z | exact w2Z _ | rfl) ?_
    refine VW.iload_n (pc' := 119) d_Planner_describeLeaves_118 rfl rfl ?_
    refine VW.ild (pc' := 120) d_Planner_describeLeaves_119 rfl (by first | exact hQ.k | exact hQ.k2 | exact hQ.k3 | exact hQ.k4 | exact hQ.k5 | exact hQ.k6 | exact hC.k 39 rfl | exact hC.k 40 rfl | exact hC.k 41 rfl | exact hC.k 42 rfl | exact hC.k 43 rfl | exact hC.k 44 rfl | exact hC.k 45 rfl | exact hC.k 46 rfl | exact hC.k 47 rfl) (by omega) (by omega) (by first | exact hQ.p2 | exact hQ.p3 | exact hQ.p4 | exact hQ.p5 | exact hQ.p6 | exact hC.p 42 rfl | exact hC.p 43 rfl | exact hC.p 44 rfl | exact hC.p 45 rfl | exact hC.p 46 rfl | exact hC.p 47 rfl | exact hC.p 48 rfl | exact hC.p 49 rfl | exact w5 | exact w1Z | exact w4Z | exact w2Z _ | rfl) ?_
    refine VW.icmp_ge (tgt := 179) (pc' := 123) d_Planner_describeLeaves_120 rfl rfl (fun c120 => ?_) (fun c120 => ?_)
    case refine_1 => exact absurd c120 (by omega)
    refine VW.aload_n (pc' := 124) d_Planner_describeLeaves_123 rfl rfl ?_
    refine VW.gP (ci := 3) (T := T3) (N := 14) (k := 3) (k' := 3) (pc' := 127) d_Planner_describeLeaves_124 rfl lk_Planner_22 in3 rfl rfl rfl rfl (by first | exact hQ.k | exact hQ.k2 | exact hQ.k3 | exact hQ.k4 | exact hQ.k5 | exact hQ.k6 | exact hC.k 39 rfl | exact hC.k 40 rfl | exact hC.k 41 rfl | exact hC.k 42 rfl | exact hC.k 43 rfl | exact hC.k 44 rfl | exact hC.k 45 rfl | exact hC.k 46 rfl | exact hC.k 47 rfl) (by first | exact hQ.p2 | exact hQ.p3 | exact hQ.p4 | exact hQ.p5 | exact hQ.p6 | exact hC.p 42 rfl | exact hC.p 43 rfl | exact hC.p 44 rfl | exact hC.p 45 rfl | exact hC.p 46 rfl | exact hC.p 47 rfl | exact hC.p 48 rfl | exact hC.p 49 rfl | exact w5 | exact w1Z | exact w4Z | exact w2Z _ | rfl) ?_
    refine VW.iload_n (pc' := 128) d_Planner_describeLeaves_127 rfl rfl ?_
    refine VW.ild (pc' := 129) d_Planner_describeLeaves_128 rfl (by first | exact hQ.k | exact hQ.k2 | exact hQ.k3 | exact hQ.k4 | exact hQ.k5 | exact hQ.k6 | exact hC.k 39 rfl | exact hC.k 40 rfl | exact hC.k 41 rfl | exact hC.k 42 rfl | exact hC.k 43 rfl | exact hC.k 44 rfl | exact hC.k 45 rfl | exact hC.k 46 rfl | exact hC.k 47 rfl) (by omega) (by omega) (by first | exact hQ.p2 | exact hQ.p3 | exact hQ.p4 | exact hQ.p5 | exact hQ.p6 | exact hC.p 42 rfl | exact hC.p 43 rfl | exact hC.p 44 rfl | exact hC.p 45 rfl | exact hC.p 46 rfl | exact hC.p 47 rfl | exact hC.p 48 rfl | exact hC.p 49 rfl | exact w5 | exact w1Z | exact w4Z | exact w2Z _ | rfl) ?_
    refine VW.iload (pc' := 131) d_Planner_describeLeaves_129 rfl rfl ?_
    refine VW.iadd (pc' := 132) d_Planner_describeLeaves_131 rfl (by omega) ?_
    refine VW.istore (pc' := 134) d_Planner_describeLeaves_132 rfl rfl ?_
    refine VW.aload_n (pc' := 135) d_Planner_describeLeaves_134 rfl rfl ?_
    refine VW.gP (ci := 3) (T := T3) (N := 14) (k := 7) (k' := 7) (pc' := 138) d_Planner_describeLeaves_135 rfl lk_Planner_31 in3 rfl rfl rfl rfl (by first | exact hQ.k | exact hQ.k2 | exact hQ.k3 | exact hQ.k4 | exact hQ.k5 | exact hQ.k6 | exact hC.k 39 rfl | exact hC.k 40 rfl | exact hC.k 41 rfl | exact hC.k 42 rfl | exact hC.k 43 rfl | exact hC.k 44 rfl | exact hC.k 45 rfl | exact hC.k 46 rfl | exact hC.k 47 rfl) (by first | exact hQ.p2 | exact hQ.p3 | exact hQ.p4 | exact hQ.p5 | exact hQ.p6 | exact hC.p 42 rfl | exact hC.p 43 rfl | exact hC.p 44 rfl | exact hC.p 45 rfl | exact hC.p 46 rfl | exact hC.p 47 rfl | exact hC.p 48 rfl | exact hC.p 49 rfl | exact w5 | exact w1Z | exact w4Z | exact w2Z _ | rfl) ?_
    refine VW.iload (pc' := 140) d_Planner_describeLeaves_138 rfl rfl ?_
    refine VW.aload_n (pc' := 141) d_Planner_describeLeaves_140 rfl rfl ?_
    refine VW.gI (ci := 3) (T := T3) (N := 14) (k := 4) (k' := 4) (pc' := 144) d_Planner_describeLeaves_141 rfl lk_Planner_127 in3 rfl rfl rfl rfl (by first | exact hQ.k | exact hQ.k2 | exact hQ.k3 | exact hQ.k4 | exact hQ.k5 | exact hQ.k6 | exact hC.k 39 rfl | exact hC.k 40 rfl | exact hC.k 41 rfl | exact hC.k 42 rfl | exact hC.k 43 rfl | exact hC.k 44 rfl | exact hC.k 45 rfl | exact hC.k 46 rfl | exact hC.k 47 rfl) (by first | exact hQ.p2 | exact hQ.p3 | exact hQ.p4 | exact hQ.p5 | exact hQ.p6 | exact hC.p 42 rfl | exact hC.p 43 rfl | exact hC.p 44 rfl | exact hC.p 45 rfl | exact hC.p 46 rfl | exact hC.p 47 rfl | exact hC.p 48 rfl | exact hC.p 49 rfl | exact w5 | exact w1Z | exact w4Z | exact w2Z _ | rfl) ?_
    refine VW.iast (pc' := 145) d_Planner_describeLeaves_144 rfl (by first | exact hQ.k | exact hQ.k2 | exact hQ.k3 | exact hQ.k4 | exact hQ.k5 | exact hQ.k6 | exact hC.k 39 rfl | exact hC.k 40 rfl | exact hC.k 41 rfl | exact hC.k 42 rfl | exact hC.k 43 rfl | exact hC.k 44 rfl | exact hC.k 45 rfl | exact hC.k 46 rfl | exact hC.k 47 rfl) (by omega) (by omega) ?_
    refine VW.aload_n (pc' := 146) d_Planner_describeLeaves_145 rfl rfl ?_
    refine VW.gP (ci := 3) (T := T3) (N := 14) (k := 8) (k' := 8) (pc' := 149) d_Planner_describeLeaves_146 rfl lk_Planner_34 in3 rfl rfl rfl rfl (by first | exact hQ.k | exact hQ.k2 | exact hQ.k3 | exact hQ.k4 | exact hQ.k5 | exact hQ.k6 | exact hC.k 39 rfl | exact hC.k 40 rfl | exact hC.k 41 rfl | exact hC.k 42 rfl | exact hC.k 43 rfl | exact hC.k 44 rfl | exact hC.k 45 rfl | exact hC.k 46 rfl | exact hC.k 47 rfl) (by first | exact hQ.p2 | exact hQ.p3 | exact hQ.p4 | exact hQ.p5 | exact hQ.p6 | exact hC.p 42 rfl | exact hC.p 43 rfl | exact hC.p 44 rfl | exact hC.p 45 rfl | exact hC.p 46 rfl | exact hC.p 47 rfl | exact hC.p 48 rfl | exact hC.p 49 rfl | exact w5 | exact w1Z | exact w4Z | exact w2Z _ | rfl) ?_
    refine VW.iload (pc' := 151) d_Planner_describeLeaves_149 rfl rfl ?_
    refine VW.iload_n (pc' := 152) d_Planner_describeLeaves_151 rfl rfl ?_
    refine VW.if_eq (tgt := 170) (pc' := 155) d_Planner_describeLeaves_152 rfl rfl (fun c152 => ?_) (fun c152 => ?_)
    · try have e152 := bIe c152
      refine VW.bipush (pc' := 172) d_Planner_describeLeaves_170 rfl (by decide) ?_
      refine VW.iast (pc' := 173) d_Planner_describeLeaves_172 rfl (by first | exact hQ.k | exact hQ.k2 | exact hQ.k3 | exact hQ.k4 | exact hQ.k5 | exact hQ.k6 | exact hC.k 39 rfl | exact hC.k 40 rfl | exact hC.k 41 rfl | exact hC.k 42 rfl | exact hC.k 43 rfl | exact hC.k 44 rfl | exact hC.k 45 rfl | exact hC.k 46 rfl | exact hC.k 47 rfl) (by omega) (by omega) ?_
      refine VW.iinc (pc' := 176) d_Planner_describeLeaves_173 rfl rfl rfl (by omega) ?_
      refine VW.goto (pc' := 112) d_Planner_describeLeaves_176 rfl ?_
      refine VW.pick [0, 1, 2, 3, 4, 5] ?_
      first | (rw [z0 c152] at i1Z; exact i1Z) | (rw [z1 c152] at i1Z; exact i1Z)
    · try have e152 := bIn c152
      refine VW.aload_n (pc' := 156) d_Planner_describeLeaves_155 rfl rfl ?_
      refine VW.gP (ci := 3) (T := T3) (N := 14) (k := 1) (k' := 1) (pc' := 159) d_Planner_describeLeaves_156 rfl lk_Planner_15 in3 rfl rfl rfl rfl (by first | exact hQ.k | exact hQ.k2 | exact hQ.k3 | exact hQ.k4 | exact hQ.k5 | exact hQ.k6 | exact hC.k 39 rfl | exact hC.k 40 rfl | exact hC.k 41 rfl | exact hC.k 42 rfl | exact hC.k 43 rfl | exact hC.k 44 rfl | exact hC.k 45 rfl | exact hC.k 46 rfl | exact hC.k 47 rfl) (by first | exact hQ.p2 | exact hQ.p3 | exact hQ.p4 | exact hQ.p5 | exact hQ.p6 | exact hC.p 42 rfl | exact hC.p 43 rfl | exact hC.p 44 rfl | exact hC.p 45 rfl | exact hC.p 46 rfl | exact hC.p 47 rfl | exact hC.p 48 rfl | exact hC.p 49 rfl | exact w5 | exact w1Z | exact w4Z | exact w2Z _ | rfl) ?_
      refine VW.iload (pc' := 161) d_Planner_describeLeaves_159 rfl rfl ?_
      refine VW.iconst (pc' := 162) d_Planner_describeLeaves_161 rfl (by decide) ?_
      refine VW.imul (pc' := 163) d_Planner_describeLeaves_162 rfl (by omega) ?_
      refine VW.iload (pc' := 165) d_Planner_describeLeaves_163 rfl rfl ?_
      refine VW.iadd (pc' := 166) d_Planner_describeLeaves_165 rfl (by omega) ?_
      refine VW.ild (pc' := 167) d_Planner_describeLeaves_166 rfl (by first | exact hQ.k | exact hQ.k2 | exact hQ.k3 | exact hQ.k4 | exact hQ.k5 | exact hQ.k6 | exact hC.k 39 rfl | exact hC.k 40 rfl | exact hC.k 41 rfl | exact hC.k 42 rfl | exact hC.k 43 rfl | exact hC.k 44 rfl | exact hC.k 45 rfl | exact hC.k 46 rfl | exact hC.k 47 rfl) (by omega) (by omega) (by first | exact hQ.p2 | exact hQ.p3 | exact hQ.p4 | exact hQ.p5 | exact hQ.p6 | exact hC.p 42 rfl | exact hC.p 43 rfl | exact hC.p 44 rfl | exact hC.p 45 rfl | exact hC.p 46 rfl | exact hC.p 47 rfl | exact hC.p 48 rfl | exact hC.p 49 rfl | exact w5 | exact w1Z | exact w4Z | exact w2Z _ | rfl) ?_
      refine VW.goto (pc' := 172) d_Planner_describeLeaves_167 rfl ?_
      refine VW.iast (pc' := 173) d_Planner_describeLeaves_172 rfl (by first | exact hQ.k | exact hQ.k2 | exact hQ.k3 | exact hQ.k4 | exact hQ.k5 | exact hQ.k6 | exact hC.k 39 rfl | exact hC.k 40 rfl | exact hC.k 41 rfl | exact hC.k 42 rfl | exact hC.k 43 rfl | exact hC.k 44 rfl | exact hC.k 45 rfl | exact hC.k 46 rfl | exact hC.k 47 rfl) (by omega) (by omega) ?_
      refine VW.iinc (pc' := 176) d_Planner_describeLeaves_173 rfl rfl rfl (by omega) ?_
      refine VW.goto (pc' := 112) d_Planner_describeLeaves_176 rfl ?_
      refine VW.pick [0, 1, 2, 3, 4, 5] ?_
      first | (rw [z0 c152] at i1Z; exact i1Z) | (rw [z1 c152] at i1Z; exact i1Z)
/-- whether a reached operator is a leaf -/
def dlS (S : IT) (q : Nat) (x : Int) : Prop := S 1387 x ≠ 0 ∧ ¬ quBlk S q x ∧ S 1384 4 < 3
def dlT (S : IT) (q : Nat) (x : Int) : Int := if S (q + 3) x = 0 then S (q + 4) (x * 4 + 0) else 0
def dlB (S : IT) (q : Nat) (x : Int) : Int := if S (q + 3) x = 0 then 1 else 0
noncomputable def dlO (S : IT) (q : Nat) (x : Int) : IT := up2 (dcE (up2 (up2 S 1390 (S 1384 4) (if S (q + 3) x = 0 then S 1385 (dlT S q x) else 10)) 1391 (S 1384 4) (dlB S q x)) (S 1388 x) (S 1384 4) (dlV S (dlB S q x) (dlT S q x)) (S (q + 5) x).toNat) 1384 4 (S 1384 4 + 1)
theorem dlO_o {o : Nat} (h1 : o ≠ 1384) (h2 : o ≠ 1390) (h3 : o ≠ 1391) (h4 : o ≠ 1392) (h5 : o ≠ 1393) : dlO S q x o = S o := by
  funext z
  unfold dlO
  rw [up2_o _ _ _ _ h1, dcE_o h4 h5, up2_o _ _ _ _ h3, up2_o _ _ _ _ h2]
theorem dlO_n : dlO S q x 1384 4 = S 1384 4 + 1 := up2_eq _ _ _ _
/-- the leaves among the operators below n -/
noncomputable def dlL (S : IT) (q : Nat) : Nat → IT
  | 0 => up2 S 1384 4 0
  | n + 1 => if bI (dlS (dlL S q n) q n) = 1 then dlO (dlL S q n) q n else dlL S q n
theorem dlL_yes {n : Nat} (h : dlS (dlL S q n) q n) : dlL S q (n + 1) = dlO (dlL S q n) q n := if_pos (bI1 h)
theorem dlL_no {n : Nat} (h : ¬ dlS (dlL S q n) q n) : dlL S q (n + 1) = dlL S q n := if_neg (by rw [bI0 h]; decide)
theorem dlL_o {o : Nat} (h1 : o ≠ 1384) (h2 : o ≠ 1390) (h3 : o ≠ 1391) (h4 : o ≠ 1392) (h5 : o ≠ 1393) : ∀ n, dlL S q n o = S o := by
  intro n
  induction n with
  | zero => exact funext (fun z => up2_o _ _ _ _ h1)
  | succ n ihZ =>
    by_cases yZ : dlS (dlL S q n) q n
    · rw [dlL_yes yZ, dlO_o h1 h2 h3 h4 h5]; exact ihZ
    · rw [dlL_no yZ]; exact ihZ
theorem dlL_n : ∀ n, 0 ≤ dlL S q n 1384 4 ∧ dlL S q n 1384 4 ≤ 3 := by
  intro n
  induction n with
  | zero => rw [show dlL S q 0 1384 4 = 0 from up2_eq _ _ _ _]; omega
  | succ n ihZ =>
    by_cases yZ : dlS (dlL S q n) q n
    · have := yZ.2.2
      rw [dlL_yes yZ, dlO_n]; omega
    · rw [dlL_no yZ]; exact ihZ
theorem dlL_full {n : Nat} (h : 3 ≤ dlL S q n 1384 4) : ∀ m, dlL S q (n + m) = dlL S q n := by
  intro m
  induction m with
  | zero => rfl
  | succ m ihZ =>
    rw [← Nat.add_assoc, dlL_no (fun y => by have := y.2.2; rw [ihZ] at this; omega), ihZ]
/-- what describing asks of a query -/
def DlOK (I : IT) (q n : Nat) : Prop := ∀ x : Int, 0 ≤ x → x < n → (0 ≤ I (q + 5) x ∧ I (q + 5) x ≤ 10) ∧ (I (q + 3) x = 0 → I (q + 5) x ≤ 4 ∧ 0 ≤ I (q + 4) (x * 4 + 0) ∧ I (q + 4) (x * 4 + 0) < 6) ∧ (I 1387 x ≠ 0 → 0 ≤ I 1388 x ∧ I 1388 x + I (q + 5) x ≤ 10)
theorem sp_Planner_describeLeaves {n : Nat} (hC : ClW K P) (hQ : QuW K P q) (hq : 10000 ≤ q) (hn : I q 0 = n) (h12 : n ≤ 12) (hr : DlOK I q n) : Sp m_Planner_describeLeaves false (rmv 4 200) (ex K P J (dlL I q n) (.inl none)) K P J I [vR (some 1384), vR (some q)] := by
  refine Sp.ofV (by decide) (Or.inr rfl) rfl ?_
  have finZ : ∀ x : Nat, x ≤ n → (x = n ∨ 3 ≤ dlL I q x 1384 4) → ex K P J (dlL I q n) (.inl none) (.inl none) K P J (dlL I q x) := fun x hx hZ => by
    have eZ : dlL I q n = dlL I q x := by
      rcases hZ with hZ | hZ
      · rw [hZ]
      · have := dlL_full hZ (n - x)
        rw [show x + (n - x) = n by omega] at this
        exact this
    rw [eZ]; exact ex_rf
  have loopZ : ∀ mZ x : Nat, x + mZ = n → VW m_Planner_describeLeaves false (rmv 4 200) (ex K P J (dlL I q n) (.inl none)) K P J (dlL I q x) 0 0 7 [(0, vR (some 1384)), (1, vR (some q)), (2, vI (x : Int))] [] := by
    intro mZ
    induction mZ with
    | zero =>
      intro x hx
      have ex0 : x = n := by omega
      subst ex0
      have c0Z : dlL I q x q 0 = x := by rw [dlL_o (by omega) (by omega) (by omega) (by omega) (by omega)]; exact hn
      have fZ := finZ x (Nat.le_refl _) (Or.inl rfl)
      refine VW.iload_n (pc' := 8) d_Planner_describeLeaves_7 rfl rfl ?_
      refine VW.aload_n (pc' := 9) d_Planner_describeLeaves_8 rfl rfl ?_
      refine VW.gI (ci := 4) (T := T4) (N := 13) (k := 0) (k' := 0) (pc' := 12) d_Planner_describeLeaves_9 rfl lk_Planner_96 in4 rfl rfl rfl rfl (by first | exact hQ.k | exact hQ.k2 | exact hQ.k3 | exact hQ.k4 | exact hQ.k5 | exact hQ.k6 | exact hC.k 39 rfl | exact hC.k 40 rfl | exact hC.k 41 rfl | exact hC.k 42 rfl | exact hC.k 43 rfl | exact hC.k 44 rfl | exact hC.k 45 rfl | exact hC.k 46 rfl | exact hC.k 47 rfl) (by first | exact hQ.p2 | exact hQ.p3 | exact hQ.p4 | exact hQ.p5 | exact hQ.p6 | exact hC.p 42 rfl | exact hC.p 43 rfl | exact hC.p 44 rfl | exact hC.p 45 rfl | exact hC.p 46 rfl | exact hC.p 47 rfl | exact hC.p 48 rfl | exact hC.p 49 rfl | exact c0Z | rfl) ?_
      refine VW.icmp_ge (tgt := 195) (pc' := 15) d_Planner_describeLeaves_12 rfl rfl (fun c12 => ?_) (fun c12 => ?_)
      case refine_2 => exact absurd c12 (by omega)
      exact VW.vret d_Planner_describeLeaves_195 rfl (Nat.zero_le _) (Nat.zero_le _) fZ
    | succ mZ ihZ =>
      intro x hx
      have i1Z := ihZ (x + 1) (by omega)
      rw [show ((x + 1 : Nat) : Int) = (x : Int) + 1 by omega] at i1Z
      have c0Z : dlL I q x q 0 = n := by rw [dlL_o (by omega) (by omega) (by omega) (by omega) (by omega)]; exact hn
      have fZ : 3 ≤ dlL I q x 1384 4 → _ := fun hZ => finZ x (by omega) (Or.inr hZ)
      have ln := dlL_n (S := I) (q := q) x
      have o3Z : dlL I q x (q + 3) = I (q + 3) := dlL_o (by omega) (by omega) (by omega) (by omega) (by omega) x
      have o4Z : dlL I q x (q + 4) = I (q + 4) := dlL_o (by omega) (by omega) (by omega) (by omega) (by omega) x
      have o5Z : dlL I q x (q + 5) = I (q + 5) := dlL_o (by omega) (by omega) (by omega) (by omega) (by omega) x
      have o7 : dlL I q x 1387 = I 1387 := dlL_o (by decide) (by decide) (by decide) (by decide) (by decide) x
      have o8Z : dlL I q x 1388 = I 1388 := dlL_o (by decide) (by decide) (by decide) (by decide) (by decide) x
      obtain ⟨hw, hs, ho⟩ := hr x (by omega) (by omega)
      rw [← o5Z] at hw hs ho
      rw [← o4Z, ← o3Z] at hs
      rw [← o7, ← o8Z] at ho
      have noZ : ¬ dlS (dlL I q x) q x → dlL I q (x + 1) = dlL I q x := fun yZ => dlL_no yZ
      have yesZ : dlS (dlL I q x) q x → dlL I q (x + 1) = dlO (dlL I q x) q x := fun yZ => dlL_yes yZ
      have x12 : 0 ≤ (x : Int) ∧ (x : Int) < 12 := by omega
      clear finZ ihZ o3Z o4Z o5Z o7 o8Z
      generalize dlL I q (x + 1) = T at *
      generalize dlL I q x = S at *
      have skipZ : ¬ dlS S q x → VW m_Planner_describeLeaves false (rmv 4 200) (ex K P J (dlL I q n) (.inl none)) K P J S 0 0 7 [(0, vR (some 1384)), (1, vR (some q)), (2, vI ((x : Int) + 1))] [] := fun yZ => by
        have := i1Z
        rw [noZ yZ] at this
        exact this
      have midZ : ∀ bZ tZ : Int, S 1384 4 < 3 → S 1387 x ≠ 0 → ¬ quBlk S q x → (S (q + 3) x = 0 → bZ = 1 ∧ tZ = S (q + 4) ((x : Int) * 4 + 0)) → (S (q + 3) x ≠ 0 → bZ = 0 ∧ tZ = 0) → VW m_Planner_describeLeaves false (rmv 4 200) (ex K P J (dlL I q n) (.inl none)) K P J (up2 (up2 S 1390 (S 1384 4) (if bZ = 0 then 10 else S 1385 tZ)) 1391 (S 1384 4) bZ) 0 0 112 [(0, vR (some 1384)), (1, vR (some q)), (2, vI (x : Int)), (3, vI bZ), (4, vI tZ), (5, vI 0)] [] := by
        intro bZ tZ l3 r1Z nb h1 h0
        have eb : bZ = dlB S q x := by
          unfold dlB
          by_cases yZ : S (q + 3) x = 0
          · rw [if_pos yZ]; exact (h1 yZ).1
          · rw [if_neg yZ]; exact (h0 yZ).1
        have et : tZ = dlT S q x := by
          unfold dlT
          by_cases yZ : S (q + 3) x = 0
          · rw [if_pos yZ]; exact (h1 yZ).2
          · rw [if_neg yZ]; exact (h0 yZ).2
        have er : (if bZ = 0 then (10 : Int) else S 1385 tZ) = if S (q + 3) x = 0 then S 1385 (dlT S q x) else 10 := by
          by_cases yZ : S (q + 3) x = 0
          · rw [if_pos yZ, if_neg (by rw [(h1 yZ).1]; decide), et]
          · rw [if_neg yZ, if_pos (h0 yZ).1]
        have t6 : 0 ≤ tZ ∧ tZ < 6 := by
          by_cases yZ : S (q + 3) x = 0
          · rw [(h1 yZ).2]; exact (hs yZ).2
          · rw [(h0 yZ).2]; omega
        have b4 : bZ = 0 ∨ S (q + 5) x ≤ 4 := by
          by_cases yZ : S (q + 3) x = 0
          · exact Or.inr (hs yZ).1
          · exact Or.inl (h0 yZ).1
        have gZ := i1Z
        rw [yesZ ⟨r1Z, nb, l3⟩] at gZ
        unfold dlO at gZ
        rw [← er, ← eb, ← et] at gZ
        have uZ : ∀ o z, o ≠ 1390 → o ≠ 1391 → up2 (up2 S 1390 (S 1384 4) (if bZ = 0 then (10 : Int) else S 1385 tZ)) 1391 (S 1384 4) bZ o z = S o z := fun o z p1 p2 => (up2_o _ _ _ _ p2).trans (up2_o _ _ _ _ p1)
        have a8 := uZ 1388 x (by decide) (by decide)
        have a4 := uZ 1384 4 (by decide) (by decide)
        have a5 := uZ (q + 5) x (by omega) (by omega)
        have a6 : ∀ z, up2 (up2 S 1390 (S 1384 4) (if bZ = 0 then (10 : Int) else S 1385 tZ)) 1391 (S 1384 4) bZ 1386 z = S 1386 z := fun z => uZ 1386 z (by decide) (by decide)
        have av : dlV (up2 (up2 S 1390 (S 1384 4) (if bZ = 0 then (10 : Int) else S 1385 tZ)) 1391 (S 1384 4) bZ) bZ tZ = dlV S bZ tZ := by
          funext z
          unfold dlV
          rw [a6]
        generalize up2 (up2 S 1390 (S 1384 4) (if bZ = 0 then (10 : Int) else S 1385 tZ)) 1391 (S 1384 4) bZ = U at *
        refine dl_cols (b := bZ) (t := tZ) (w := (S (q + 5) x).toNat) hC hQ hq x12 (by rw [a8]; have := ho r1Z; omega) (by rw [a5]; omega) (by rw [a4]; omega) t6 (by omega) ?_ (S (q + 5) x).toNat 0 (by omega)
        rw [a8, a4, av]
        have w4Z : dcE U (S 1388 x) (S 1384 4) (dlV S bZ tZ) (S (q + 5) x).toNat 1384 4 = S 1384 4 := by rw [dcE_o (by decide) (by decide)]; exact a4
        refine VW.aload_n (pc' := 180) d_Planner_describeLeaves_179 rfl rfl ?_
        refine VW.dup (pc' := 181) d_Planner_describeLeaves_180 rfl rfl ?_
        refine VW.gI (ci := 3) (T := T3) (N := 14) (k := 4) (k' := 4) (pc' := 184) d_Planner_describeLeaves_181 rfl lk_Planner_127 in3 rfl rfl rfl rfl (by first | exact hQ.k | exact hQ.k2 | exact hQ.k3 | exact hQ.k4 | exact hQ.k5 | exact hQ.k6 | exact hC.k 39 rfl | exact hC.k 40 rfl | exact hC.k 41 rfl | exact hC.k 42 rfl | exact hC.k 43 rfl | exact hC.k 44 rfl | exact hC.k 45 rfl | exact hC.k 46 rfl | exact hC.k 47 rfl) (by first | exact hQ.p2 | exact hQ.p3 | exact hQ.p4 | exact hQ.p5 | exact hQ.p6 | exact hC.p 42 rfl | exact hC.p 43 rfl | exact hC.p 44 rfl | exact hC.p 45 rfl | exact hC.p 46 rfl | exact hC.p 47 rfl | exact hC.p 48 rfl | exact hC.p 49 rfl | exact w4Z | rfl) ?_
        refine VW.iconst (pc' := 185) d_Planner_describeLeaves_184 rfl (by decide) ?_
        refine VW.iadd (pc' := 186) d_Planner_describeLeaves_185 rfl (by omega) ?_
        refine VW.pI (ci := 3) (T := T3) (N := 14) (k := 4) (k' := 4) (ty := ty3) (pc' := 189) d_Planner_describeLeaves_186 rfl lk_Planner_127 in3 tk3 nm3 rfl rfl rfl rfl rfl rfl (by first | exact hQ.k | exact hQ.k2 | exact hQ.k3 | exact hQ.k4 | exact hQ.k5 | exact hQ.k6 | exact hC.k 39 rfl | exact hC.k 40 rfl | exact hC.k 41 rfl | exact hC.k 42 rfl | exact hC.k 43 rfl | exact hC.k 44 rfl | exact hC.k 45 rfl | exact hC.k 46 rfl | exact hC.k 47 rfl) ?_
        refine VW.iinc (pc' := 192) d_Planner_describeLeaves_189 rfl rfl rfl (by omega) ?_
        refine VW.goto (pc' := 7) d_Planner_describeLeaves_192 rfl ?_
        refine VW.pick [0, 1, 2] ?_
        exact gZ
      have parZ := sp_Query_parameter (K := K) (P := P) (J := J) (I := S) (x := (x : Int)) (n := 0) hQ x12 ⟨by decide, by decide⟩
      have inn := sp_Planner_isInner (K := K) (P := P) (J := J) (I := S) (x := (x : Int)) hQ x12
      have u4Z : ∀ l v, up2 S 1390 l v 1384 4 = S 1384 4 := fun l v => up2_o _ _ _ _ (by decide)
      clear i1Z yesZ noZ
      refine VW.iload_n (pc' := 8) d_Planner_describeLeaves_7 rfl rfl ?_
      refine VW.aload_n (pc' := 9) d_Planner_describeLeaves_8 rfl rfl ?_
      refine VW.gI (ci := 4) (T := T4) (N := 13) (k := 0) (k' := 0) (pc' := 12) d_Planner_describeLeaves_9 rfl lk_Planner_96 in4 rfl rfl rfl rfl (by first | exact hQ.k | exact hQ.k2 | exact hQ.k3 | exact hQ.k4 | exact hQ.k5 | exact hQ.k6 | exact hC.k 39 rfl | exact hC.k 40 rfl | exact hC.k 41 rfl | exact hC.k 42 rfl | exact hC.k 43 rfl | exact hC.k 44 rfl | exact hC.k 45 rfl | exact hC.k 46 rfl | exact hC.k 47 rfl) (by first | exact hQ.p2 | exact hQ.p3 | exact hQ.p4 | exact hQ.p5 | exact hQ.p6 | exact hC.p 42 rfl | exact hC.p 43 rfl | exact hC.p 44 rfl | exact hC.p 45 rfl | exact hC.p 46 rfl | exact hC.p 47 rfl | exact hC.p 48 rfl | exact hC.p 49 rfl | exact c0Z | exact u4Z _ _ | rfl) ?_
      refine VW.icmp_ge (tgt := 195) (pc' := 15) d_Planner_describeLeaves_12 rfl rfl (fun c12 => ?_) (fun c12 => ?_)
      case refine_1 => exact absurd c12 (by omega)
      refine VW.aload_n (pc' := 16) d_Planner_describeLeaves_15 rfl rfl ?_
      refine VW.gI (ci := 3) (T := T3) (N := 14) (k := 4) (k' := 4) (pc' := 19) d_Planner_describeLeaves_16 rfl lk_Planner_127 in3 rfl rfl rfl rfl (by first | exact hQ.k | exact hQ.k2 | exact hQ.k3 | exact hQ.k4 | exact hQ.k5 | exact hQ.k6 | exact hC.k 39 rfl | exact hC.k 40 rfl | exact hC.k 41 rfl | exact hC.k 42 rfl | exact hC.k 43 rfl | exact hC.k 44 rfl | exact hC.k 45 rfl | exact hC.k 46 rfl | exact hC.k 47 rfl) (by first | exact hQ.p2 | exact hQ.p3 | exact hQ.p4 | exact hQ.p5 | exact hQ.p6 | exact hC.p 42 rfl | exact hC.p 43 rfl | exact hC.p 44 rfl | exact hC.p 45 rfl | exact hC.p 46 rfl | exact hC.p 47 rfl | exact hC.p 48 rfl | exact hC.p 49 rfl | exact c0Z | exact u4Z _ _ | rfl) ?_
      refine VW.iconst (pc' := 20) d_Planner_describeLeaves_19 rfl (by decide) ?_
      refine VW.icmp_ge (tgt := 195) (pc' := 23) d_Planner_describeLeaves_20 rfl rfl (fun c20 => ?_) (fun c20 => ?_)
      · exact VW.vret d_Planner_describeLeaves_195 rfl (Nat.zero_le _) (Nat.zero_le _) (fZ c20)
      · refine VW.aload_n (pc' := 24) d_Planner_describeLeaves_23 rfl rfl ?_
        refine VW.gP (ci := 3) (T := T3) (N := 14) (k := 2) (k' := 2) (pc' := 27) d_Planner_describeLeaves_24 rfl lk_Planner_18 in3 rfl rfl rfl rfl (by first | exact hQ.k | exact hQ.k2 | exact hQ.k3 | exact hQ.k4 | exact hQ.k5 | exact hQ.k6 | exact hC.k 39 rfl | exact hC.k 40 rfl | exact hC.k 41 rfl | exact hC.k 42 rfl | exact hC.k 43 rfl | exact hC.k 44 rfl | exact hC.k 45 rfl | exact hC.k 46 rfl | exact hC.k 47 rfl) (by first | exact hQ.p2 | exact hQ.p3 | exact hQ.p4 | exact hQ.p5 | exact hQ.p6 | exact hC.p 42 rfl | exact hC.p 43 rfl | exact hC.p 44 rfl | exact hC.p 45 rfl | exact hC.p 46 rfl | exact hC.p 47 rfl | exact hC.p 48 rfl | exact hC.p 49 rfl | exact c0Z | exact u4Z _ _ | rfl) ?_
        refine VW.iload_n (pc' := 28) d_Planner_describeLeaves_27 rfl rfl ?_
        refine VW.zld (pc' := 29) d_Planner_describeLeaves_28 rfl (by first | exact hQ.k | exact hQ.k2 | exact hQ.k3 | exact hQ.k4 | exact hQ.k5 | exact hQ.k6 | exact hC.k 39 rfl | exact hC.k 40 rfl | exact hC.k 41 rfl | exact hC.k 42 rfl | exact hC.k 43 rfl | exact hC.k 44 rfl | exact hC.k 45 rfl | exact hC.k 46 rfl | exact hC.k 47 rfl) (by omega) (by omega) (by first | exact hQ.p2 | exact hQ.p3 | exact hQ.p4 | exact hQ.p5 | exact hQ.p6 | exact hC.p 42 rfl | exact hC.p 43 rfl | exact hC.p 44 rfl | exact hC.p 45 rfl | exact hC.p 46 rfl | exact hC.p 47 rfl | exact hC.p 48 rfl | exact hC.p 49 rfl | exact c0Z | exact u4Z _ _ | rfl) ?_
        refine VW.if_eq (tgt := 189) (pc' := 32) d_Planner_describeLeaves_29 rfl rfl (fun c29 => ?_) (fun c29 => ?_)
        · try have e29 := bIe c29
          refine VW.iinc (pc' := 192) d_Planner_describeLeaves_189 rfl rfl rfl (by first | omega | (have wZ := (hs c49).2; omega)) ?_
          refine VW.goto (pc' := 7) d_Planner_describeLeaves_192 rfl ?_
          refine VW.pick [0, 1, 2] ?_
          first | exact skipZ (fun z => z.1 c29) | exact skipZ (fun z => z.2.1 e37)
        · try have e29 := bIn c29
          refine VW.aload_n (pc' := 33) d_Planner_describeLeaves_32 rfl rfl ?_
          refine VW.iload_n (pc' := 34) d_Planner_describeLeaves_33 rfl rfl ?_
          refine VW.cS (pc' := 37) d_Planner_describeLeaves_34 rfl ms_Planner_isInner lk_Planner_114 rfl rfl rfl (Nat.le_refl _) (Nat.le_refl _) (inn) rfl rfl ?_
          refine VW.if_eq (tgt := 43) (pc' := 40) d_Planner_describeLeaves_37 rfl rfl (fun c37 => ?_) (fun c37 => ?_)
          · try have e37 := bIe c37
            refine VW.aload_n (pc' := 44) d_Planner_describeLeaves_43 rfl rfl ?_
            refine VW.gP (ci := 4) (T := T4) (N := 13) (k := 2) (k' := 2) (pc' := 47) d_Planner_describeLeaves_44 rfl lk_Planner_111 in4 rfl rfl rfl rfl (by first | exact hQ.k | exact hQ.k2 | exact hQ.k3 | exact hQ.k4 | exact hQ.k5 | exact hQ.k6 | exact hC.k 39 rfl | exact hC.k 40 rfl | exact hC.k 41 rfl | exact hC.k 42 rfl | exact hC.k 43 rfl | exact hC.k 44 rfl | exact hC.k 45 rfl | exact hC.k 46 rfl | exact hC.k 47 rfl) (by first | exact hQ.p2 | exact hQ.p3 | exact hQ.p4 | exact hQ.p5 | exact hQ.p6 | exact hC.p 42 rfl | exact hC.p 43 rfl | exact hC.p 44 rfl | exact hC.p 45 rfl | exact hC.p 46 rfl | exact hC.p 47 rfl | exact hC.p 48 rfl | exact hC.p 49 rfl | exact c0Z | exact u4Z _ _ | rfl) ?_
            refine VW.iload_n (pc' := 48) d_Planner_describeLeaves_47 rfl rfl ?_
            refine VW.ild (pc' := 49) d_Planner_describeLeaves_48 rfl (by first | exact hQ.k | exact hQ.k2 | exact hQ.k3 | exact hQ.k4 | exact hQ.k5 | exact hQ.k6 | exact hC.k 39 rfl | exact hC.k 40 rfl | exact hC.k 41 rfl | exact hC.k 42 rfl | exact hC.k 43 rfl | exact hC.k 44 rfl | exact hC.k 45 rfl | exact hC.k 46 rfl | exact hC.k 47 rfl) (by omega) (by omega) (by first | exact hQ.p2 | exact hQ.p3 | exact hQ.p4 | exact hQ.p5 | exact hQ.p6 | exact hC.p 42 rfl | exact hC.p 43 rfl | exact hC.p 44 rfl | exact hC.p 45 rfl | exact hC.p 46 rfl | exact hC.p 47 rfl | exact hC.p 48 rfl | exact hC.p 49 rfl | exact c0Z | exact u4Z _ _ | rfl) ?_
            refine VW.if_ne (tgt := 56) (pc' := 52) d_Planner_describeLeaves_49 rfl rfl (fun c49 => ?_) (fun c49 => ?_)
            · try have e49 := bIn c49
              refine VW.iconst (pc' := 57) d_Planner_describeLeaves_56 rfl (by decide) ?_
              refine VW.istore_n (pc' := 58) d_Planner_describeLeaves_57 rfl rfl ?_
              refine VW.iload_n (pc' := 59) d_Planner_describeLeaves_58 rfl rfl ?_
              refine VW.if_eq (tgt := 71) (pc' := 62) d_Planner_describeLeaves_59 rfl rfl (fun _ => ?_) (fun c59 => absurd c59 (by decide))
              refine VW.iconst (pc' := 72) d_Planner_describeLeaves_71 rfl (by decide) ?_
              refine VW.istore (pc' := 74) d_Planner_describeLeaves_72 rfl rfl ?_
              refine VW.aload_n (pc' := 75) d_Planner_describeLeaves_74 rfl rfl ?_
              refine VW.gP (ci := 3) (T := T3) (N := 14) (k := 5) (k' := 5) (pc' := 78) d_Planner_describeLeaves_75 rfl lk_Planner_25 in3 rfl rfl rfl rfl (by first | exact hQ.k | exact hQ.k2 | exact hQ.k3 | exact hQ.k4 | exact hQ.k5 | exact hQ.k6 | exact hC.k 39 rfl | exact hC.k 40 rfl | exact hC.k 41 rfl | exact hC.k 42 rfl | exact hC.k 43 rfl | exact hC.k 44 rfl | exact hC.k 45 rfl | exact hC.k 46 rfl | exact hC.k 47 rfl) (by first | exact hQ.p2 | exact hQ.p3 | exact hQ.p4 | exact hQ.p5 | exact hQ.p6 | exact hC.p 42 rfl | exact hC.p 43 rfl | exact hC.p 44 rfl | exact hC.p 45 rfl | exact hC.p 46 rfl | exact hC.p 47 rfl | exact hC.p 48 rfl | exact hC.p 49 rfl | exact c0Z | exact u4Z _ _ | rfl) ?_
              refine VW.aload_n (pc' := 79) d_Planner_describeLeaves_78 rfl rfl ?_
              refine VW.gI (ci := 3) (T := T3) (N := 14) (k := 4) (k' := 4) (pc' := 82) d_Planner_describeLeaves_79 rfl lk_Planner_127 in3 rfl rfl rfl rfl (by first | exact hQ.k | exact hQ.k2 | exact hQ.k3 | exact hQ.k4 | exact hQ.k5 | exact hQ.k6 | exact hC.k 39 rfl | exact hC.k 40 rfl | exact hC.k 41 rfl | exact hC.k 42 rfl | exact hC.k 43 rfl | exact hC.k 44 rfl | exact hC.k 45 rfl | exact hC.k 46 rfl | exact hC.k 47 rfl) (by first | exact hQ.p2 | exact hQ.p3 | exact hQ.p4 | exact hQ.p5 | exact hQ.p6 | exact hC.p 42 rfl | exact hC.p 43 rfl | exact hC.p 44 rfl | exact hC.p 45 rfl | exact hC.p 46 rfl | exact hC.p 47 rfl | exact hC.p 48 rfl | exact hC.p 49 rfl | exact c0Z | exact u4Z _ _ | rfl) ?_
              refine VW.iload_n (pc' := 83) d_Planner_describeLeaves_82 rfl rfl ?_
              refine VW.if_eq (tgt := 96) (pc' := 86) d_Planner_describeLeaves_83 rfl rfl (fun _ => ?_) (fun c83 => absurd c83 (by decide))
              refine VW.bipush (pc' := 98) d_Planner_describeLeaves_96 rfl (by decide) ?_
              refine VW.iast (pc' := 99) d_Planner_describeLeaves_98 rfl (by first | exact hQ.k | exact hQ.k2 | exact hQ.k3 | exact hQ.k4 | exact hQ.k5 | exact hQ.k6 | exact hC.k 39 rfl | exact hC.k 40 rfl | exact hC.k 41 rfl | exact hC.k 42 rfl | exact hC.k 43 rfl | exact hC.k 44 rfl | exact hC.k 45 rfl | exact hC.k 46 rfl | exact hC.k 47 rfl) (by omega) (by omega) ?_
              refine VW.aload_n (pc' := 100) d_Planner_describeLeaves_99 rfl rfl ?_
              refine VW.gP (ci := 3) (T := T3) (N := 14) (k := 6) (k' := 6) (pc' := 103) d_Planner_describeLeaves_100 rfl lk_Planner_28 in3 rfl rfl rfl rfl (by first | exact hQ.k | exact hQ.k2 | exact hQ.k3 | exact hQ.k4 | exact hQ.k5 | exact hQ.k6 | exact hC.k 39 rfl | exact hC.k 40 rfl | exact hC.k 41 rfl | exact hC.k 42 rfl | exact hC.k 43 rfl | exact hC.k 44 rfl | exact hC.k 45 rfl | exact hC.k 46 rfl | exact hC.k 47 rfl) (by first | exact hQ.p2 | exact hQ.p3 | exact hQ.p4 | exact hQ.p5 | exact hQ.p6 | exact hC.p 42 rfl | exact hC.p 43 rfl | exact hC.p 44 rfl | exact hC.p 45 rfl | exact hC.p 46 rfl | exact hC.p 47 rfl | exact hC.p 48 rfl | exact hC.p 49 rfl | exact c0Z | exact u4Z _ _ | rfl) ?_
              refine VW.aload_n (pc' := 104) d_Planner_describeLeaves_103 rfl rfl ?_
              refine VW.gI (ci := 3) (T := T3) (N := 14) (k := 4) (k' := 4) (pc' := 107) d_Planner_describeLeaves_104 rfl lk_Planner_127 in3 rfl rfl rfl rfl (by first | exact hQ.k | exact hQ.k2 | exact hQ.k3 | exact hQ.k4 | exact hQ.k5 | exact hQ.k6 | exact hC.k 39 rfl | exact hC.k 40 rfl | exact hC.k 41 rfl | exact hC.k 42 rfl | exact hC.k 43 rfl | exact hC.k 44 rfl | exact hC.k 45 rfl | exact hC.k 46 rfl | exact hC.k 47 rfl) (by first | exact hQ.p2 | exact hQ.p3 | exact hQ.p4 | exact hQ.p5 | exact hQ.p6 | exact hC.p 42 rfl | exact hC.p 43 rfl | exact hC.p 44 rfl | exact hC.p 45 rfl | exact hC.p 46 rfl | exact hC.p 47 rfl | exact hC.p 48 rfl | exact hC.p 49 rfl | exact c0Z | exact u4Z _ _ | rfl) ?_
              refine VW.iload_n (pc' := 108) d_Planner_describeLeaves_107 rfl rfl ?_
              refine VW.zast (pc' := 109) d_Planner_describeLeaves_108 rfl (by first | exact hQ.k | exact hQ.k2 | exact hQ.k3 | exact hQ.k4 | exact hQ.k5 | exact hQ.k6 | exact hC.k 39 rfl | exact hC.k 40 rfl | exact hC.k 41 rfl | exact hC.k 42 rfl | exact hC.k 43 rfl | exact hC.k 44 rfl | exact hC.k 45 rfl | exact hC.k 46 rfl | exact hC.k 47 rfl) (by omega) (by omega) (by omega) ?_
              refine VW.iconst (pc' := 110) d_Planner_describeLeaves_109 rfl (by decide) ?_
              refine VW.istore (pc' := 112) d_Planner_describeLeaves_110 rfl rfl ?_
              refine VW.pick [0, 1, 2, 3, 4, 5] ?_
              first | exact midZ 1 _ (by omega) c29 e37 (fun _ => ⟨rfl, rfl⟩) (fun z => absurd c49 z) | exact midZ 0 0 (by omega) c29 e37 (fun z => absurd z c49) (fun _ => ⟨rfl, rfl⟩)
            · try have e49 := bIe c49
              refine VW.iconst (pc' := 53) d_Planner_describeLeaves_52 rfl (by decide) ?_
              refine VW.goto (pc' := 57) d_Planner_describeLeaves_53 rfl ?_
              refine VW.istore_n (pc' := 58) d_Planner_describeLeaves_57 rfl rfl ?_
              refine VW.iload_n (pc' := 59) d_Planner_describeLeaves_58 rfl rfl ?_
              refine VW.if_eq (tgt := 71) (pc' := 62) d_Planner_describeLeaves_59 rfl rfl (fun c59 => absurd c59 (by decide)) (fun _ => ?_)
              refine VW.aload_n (pc' := 63) d_Planner_describeLeaves_62 rfl rfl ?_
              refine VW.iload_n (pc' := 64) d_Planner_describeLeaves_63 rfl rfl ?_
              refine VW.iconst (pc' := 65) d_Planner_describeLeaves_64 rfl (by decide) ?_
              refine VW.cV (ci := 4) (T := T4) (N := 13) (pc' := 68) d_Planner_describeLeaves_65 rfl mv_Query_parameter lk_Planner_130 rfl (by first | exact hQ.k | exact hQ.k2 | exact hQ.k3 | exact hQ.k4 | exact hQ.k5 | exact hQ.k6 | exact hC.k 39 rfl | exact hC.k 40 rfl | exact hC.k 41 rfl | exact hC.k 42 rfl | exact hC.k 43 rfl | exact hC.k 44 rfl | exact hC.k 45 rfl | exact hC.k 46 rfl | exact hC.k 47 rfl) rfl rfl rfl (Nat.le_refl _) (Nat.le_refl _) (parZ) rfl rfl ?_
              refine VW.goto (pc' := 72) d_Planner_describeLeaves_68 rfl ?_
              refine VW.istore (pc' := 74) d_Planner_describeLeaves_72 rfl rfl ?_
              refine VW.aload_n (pc' := 75) d_Planner_describeLeaves_74 rfl rfl ?_
              refine VW.gP (ci := 3) (T := T3) (N := 14) (k := 5) (k' := 5) (pc' := 78) d_Planner_describeLeaves_75 rfl lk_Planner_25 in3 rfl rfl rfl rfl (by first | exact hQ.k | exact hQ.k2 | exact hQ.k3 | exact hQ.k4 | exact hQ.k5 | exact hQ.k6 | exact hC.k 39 rfl | exact hC.k 40 rfl | exact hC.k 41 rfl | exact hC.k 42 rfl | exact hC.k 43 rfl | exact hC.k 44 rfl | exact hC.k 45 rfl | exact hC.k 46 rfl | exact hC.k 47 rfl) (by first | exact hQ.p2 | exact hQ.p3 | exact hQ.p4 | exact hQ.p5 | exact hQ.p6 | exact hC.p 42 rfl | exact hC.p 43 rfl | exact hC.p 44 rfl | exact hC.p 45 rfl | exact hC.p 46 rfl | exact hC.p 47 rfl | exact hC.p 48 rfl | exact hC.p 49 rfl | exact c0Z | exact u4Z _ _ | rfl) ?_
              refine VW.aload_n (pc' := 79) d_Planner_describeLeaves_78 rfl rfl ?_
              refine VW.gI (ci := 3) (T := T3) (N := 14) (k := 4) (k' := 4) (pc' := 82) d_Planner_describeLeaves_79 rfl lk_Planner_127 in3 rfl rfl rfl rfl (by first | exact hQ.k | exact hQ.k2 | exact hQ.k3 | exact hQ.k4 | exact hQ.k5 | exact hQ.k6 | exact hC.k 39 rfl | exact hC.k 40 rfl | exact hC.k 41 rfl | exact hC.k 42 rfl | exact hC.k 43 rfl | exact hC.k 44 rfl | exact hC.k 45 rfl | exact hC.k 46 rfl | exact hC.k 47 rfl) (by first | exact hQ.p2 | exact hQ.p3 | exact hQ.p4 | exact hQ.p5 | exact hQ.p6 | exact hC.p 42 rfl | exact hC.p 43 rfl | exact hC.p 44 rfl | exact hC.p 45 rfl | exact hC.p 46 rfl | exact hC.p 47 rfl | exact hC.p 48 rfl | exact hC.p 49 rfl | exact c0Z | exact u4Z _ _ | rfl) ?_
              refine VW.iload_n (pc' := 83) d_Planner_describeLeaves_82 rfl rfl ?_
              refine VW.if_eq (tgt := 96) (pc' := 86) d_Planner_describeLeaves_83 rfl rfl (fun c83 => absurd c83 (by decide)) (fun _ => ?_)
              refine VW.aload_n (pc' := 87) d_Planner_describeLeaves_86 rfl rfl ?_
              refine VW.gP (ci := 3) (T := T3) (N := 14) (k := 0) (k' := 0) (pc' := 90) d_Planner_describeLeaves_87 rfl lk_Planner_9 in3 rfl rfl rfl rfl (by first | exact hQ.k | exact hQ.k2 | exact hQ.k3 | exact hQ.k4 | exact hQ.k5 | exact hQ.k6 | exact hC.k 39 rfl | exact hC.k 40 rfl | exact hC.k 41 rfl | exact hC.k 42 rfl | exact hC.k 43 rfl | exact hC.k 44 rfl | exact hC.k 45 rfl | exact hC.k 46 rfl | exact hC.k 47 rfl) (by first | exact hQ.p2 | exact hQ.p3 | exact hQ.p4 | exact hQ.p5 | exact hQ.p6 | exact hC.p 42 rfl | exact hC.p 43 rfl | exact hC.p 44 rfl | exact hC.p 45 rfl | exact hC.p 46 rfl | exact hC.p 47 rfl | exact hC.p 48 rfl | exact hC.p 49 rfl | exact c0Z | exact u4Z _ _ | rfl) ?_
              refine VW.iload (pc' := 92) d_Planner_describeLeaves_90 rfl rfl ?_
              refine VW.ild (pc' := 93) d_Planner_describeLeaves_92 rfl (by first | exact hQ.k | exact hQ.k2 | exact hQ.k3 | exact hQ.k4 | exact hQ.k5 | exact hQ.k6 | exact hC.k 39 rfl | exact hC.k 40 rfl | exact hC.k 41 rfl | exact hC.k 42 rfl | exact hC.k 43 rfl | exact hC.k 44 rfl | exact hC.k 45 rfl | exact hC.k 46 rfl | exact hC.k 47 rfl) (by omega) (by omega) (by first | exact hQ.p2 | exact hQ.p3 | exact hQ.p4 | exact hQ.p5 | exact hQ.p6 | exact hC.p 42 rfl | exact hC.p 43 rfl | exact hC.p 44 rfl | exact hC.p 45 rfl | exact hC.p 46 rfl | exact hC.p 47 rfl | exact hC.p 48 rfl | exact hC.p 49 rfl | exact c0Z | exact u4Z _ _ | rfl) ?_
              refine VW.goto (pc' := 98) d_Planner_describeLeaves_93 rfl ?_
              refine VW.iast (pc' := 99) d_Planner_describeLeaves_98 rfl (by first | exact hQ.k | exact hQ.k2 | exact hQ.k3 | exact hQ.k4 | exact hQ.k5 | exact hQ.k6 | exact hC.k 39 rfl | exact hC.k 40 rfl | exact hC.k 41 rfl | exact hC.k 42 rfl | exact hC.k 43 rfl | exact hC.k 44 rfl | exact hC.k 45 rfl | exact hC.k 46 rfl | exact hC.k 47 rfl) (by omega) (by omega) ?_
              refine VW.aload_n (pc' := 100) d_Planner_describeLeaves_99 rfl rfl ?_
              refine VW.gP (ci := 3) (T := T3) (N := 14) (k := 6) (k' := 6) (pc' := 103) d_Planner_describeLeaves_100 rfl lk_Planner_28 in3 rfl rfl rfl rfl (by first | exact hQ.k | exact hQ.k2 | exact hQ.k3 | exact hQ.k4 | exact hQ.k5 | exact hQ.k6 | exact hC.k 39 rfl | exact hC.k 40 rfl | exact hC.k 41 rfl | exact hC.k 42 rfl | exact hC.k 43 rfl | exact hC.k 44 rfl | exact hC.k 45 rfl | exact hC.k 46 rfl | exact hC.k 47 rfl) (by first | exact hQ.p2 | exact hQ.p3 | exact hQ.p4 | exact hQ.p5 | exact hQ.p6 | exact hC.p 42 rfl | exact hC.p 43 rfl | exact hC.p 44 rfl | exact hC.p 45 rfl | exact hC.p 46 rfl | exact hC.p 47 rfl | exact hC.p 48 rfl | exact hC.p 49 rfl | exact c0Z | exact u4Z _ _ | rfl) ?_
              refine VW.aload_n (pc' := 104) d_Planner_describeLeaves_103 rfl rfl ?_
              refine VW.gI (ci := 3) (T := T3) (N := 14) (k := 4) (k' := 4) (pc' := 107) d_Planner_describeLeaves_104 rfl lk_Planner_127 in3 rfl rfl rfl rfl (by first | exact hQ.k | exact hQ.k2 | exact hQ.k3 | exact hQ.k4 | exact hQ.k5 | exact hQ.k6 | exact hC.k 39 rfl | exact hC.k 40 rfl | exact hC.k 41 rfl | exact hC.k 42 rfl | exact hC.k 43 rfl | exact hC.k 44 rfl | exact hC.k 45 rfl | exact hC.k 46 rfl | exact hC.k 47 rfl) (by first | exact hQ.p2 | exact hQ.p3 | exact hQ.p4 | exact hQ.p5 | exact hQ.p6 | exact hC.p 42 rfl | exact hC.p 43 rfl | exact hC.p 44 rfl | exact hC.p 45 rfl | exact hC.p 46 rfl | exact hC.p 47 rfl | exact hC.p 48 rfl | exact hC.p 49 rfl | exact c0Z | exact u4Z _ _ | rfl) ?_
              refine VW.iload_n (pc' := 108) d_Planner_describeLeaves_107 rfl rfl ?_
              refine VW.zast (pc' := 109) d_Planner_describeLeaves_108 rfl (by first | exact hQ.k | exact hQ.k2 | exact hQ.k3 | exact hQ.k4 | exact hQ.k5 | exact hQ.k6 | exact hC.k 39 rfl | exact hC.k 40 rfl | exact hC.k 41 rfl | exact hC.k 42 rfl | exact hC.k 43 rfl | exact hC.k 44 rfl | exact hC.k 45 rfl | exact hC.k 46 rfl | exact hC.k 47 rfl) (by omega) (by omega) (by omega) ?_
              refine VW.iconst (pc' := 110) d_Planner_describeLeaves_109 rfl (by decide) ?_
              refine VW.istore (pc' := 112) d_Planner_describeLeaves_110 rfl rfl ?_
              refine VW.pick [0, 1, 2, 3, 4, 5] ?_
              first | exact midZ 1 _ (by omega) c29 e37 (fun _ => ⟨rfl, rfl⟩) (fun z => absurd c49 z) | exact midZ 0 0 (by omega) c29 e37 (fun z => absurd z c49) (fun _ => ⟨rfl, rfl⟩)
          · try have e37 := bIn c37
            refine VW.goto (pc' := 189) d_Planner_describeLeaves_40 rfl ?_
            refine VW.iinc (pc' := 192) d_Planner_describeLeaves_189 rfl rfl rfl (by first | omega | (have wZ := (hs c49).2; omega)) ?_
            refine VW.goto (pc' := 7) d_Planner_describeLeaves_192 rfl ?_
            refine VW.pick [0, 1, 2] ?_
            first | exact skipZ (fun z => z.1 c29) | exact skipZ (fun z => z.2.1 e37)
  have l := loopZ n 0 (Nat.zero_add _)
  have l2 : VW m_Planner_describeLeaves false (rmv 4 200) (ex K P J (dlL I q n) (.inl none)) K P J (up2 I 1384 4 0) 0 0 7 [(0, vR (some 1384)), (1, vR (some q)), (2, vI 0)] [] := l
  clear l loopZ finZ
  refine VW.aload_n (pc' := 1) d_Planner_describeLeaves_0 rfl rfl ?_
  refine VW.iconst (pc' := 2) d_Planner_describeLeaves_1 rfl (by decide) ?_
  refine VW.pI (ci := 3) (T := T3) (N := 14) (k := 4) (k' := 4) (ty := ty3) (pc' := 5) d_Planner_describeLeaves_2 rfl lk_Planner_127 in3 tk3 nm3 rfl rfl rfl rfl rfl rfl (by first | exact hQ.k | exact hQ.k2 | exact hQ.k3 | exact hQ.k4 | exact hQ.k5 | exact hQ.k6 | exact hC.k 39 rfl | exact hC.k 40 rfl | exact hC.k 41 rfl | exact hC.k 42 rfl | exact hC.k 43 rfl | exact hC.k 44 rfl | exact hC.k 45 rfl | exact hC.k 46 rfl | exact hC.k 47 rfl) ?_
  refine VW.iconst (pc' := 6) d_Planner_describeLeaves_5 rfl (by decide) ?_
  refine VW.istore_n (pc' := 7) d_Planner_describeLeaves_6 rfl rfl ?_
  refine VW.pick [0, 1, 2] ?_
  exact l2
end
