/-! the filters and the joins of a block, as the class takes them -/
section
variable {K : KT} {P : PT} {J I S : IT} {q : Nat} {x : Int}
theorem mDiv_b3 {v b c : Int} (hv : 0 ≤ v ∧ v ≤ c) (hc : 1 ≤ c) (hb : 0 ≤ b) : 1 ≤ mDiv v b ∧ mDiv v b ≤ c := by
  have eZ : v.tdiv (if b = 0 then 1 else b) ≤ v := by
    rw [Int.tdiv_eq_ediv_of_nonneg hv.1]; exact Int.ediv_le_self _ hv.1
  unfold mDiv
  generalize v.tdiv (if b = 0 then 1 else b) = y at *
  split <;> omega
/-- a filter divides its leaf's rows -/
def afP (S : IT) (q : Nat) (x : Int) : Int := S 1388 x + S (q + 4) (x * 4 + 0)
def afD (S : IT) (q : Nat) (x : Int) : Int := if S (q + 4) (x * 4 + 1) = 1 ∧ S (q + 4) (x * 4 + 3) = 0 then S 1393 (afP S q x) else 3
noncomputable def afO (S : IT) (q : Nat) (x : Int) : IT := if S 1391 (S 1392 (afP S q x)) = 0 then S else up2 S 1390 (S 1392 (afP S q x)) (mDiv (S 1390 (S 1392 (afP S q x))) (afD S q x))
theorem afO_o {o : Nat} (h : o ≠ 1390) : afO S q x o = S o := by
  funext z
  unfold afO
  split
  · rfl
  · exact up2_o _ _ _ _ h
def afS (S : IT) (q : Nat) (x : Int) : Prop := S 1387 x ≠ 0 ∧ S (q + 3) x = 1
noncomputable def afL (S : IT) (q : Nat) : Nat → IT
  | 0 => S
  | n + 1 => if bI (afS (afL S q n) q n) = 1 then afO (afL S q n) q n else afL S q n
theorem afL_yes {n : Nat} (h : afS (afL S q n) q n) : afL S q (n + 1) = afO (afL S q n) q n := if_pos (bI1 h)
theorem afL_no {n : Nat} (h : ¬ afS (afL S q n) q n) : afL S q (n + 1) = afL S q n := if_neg (by rw [bI0 h]; decide)
theorem afL_o {o : Nat} (h1 : o ≠ 1390) : ∀ n, afL S q n o = S o := by
  intro n
  induction n with
  | zero => rfl
  | succ n ihZ =>
    by_cases yZ : afS (afL S q n) q n
    · rw [afL_yes yZ, afO_o h1]; exact ihZ
    · rw [afL_no yZ]; exact ihZ
def AfOK (I : IT) (q n : Nat) : Prop := (∀ l, 0 ≤ l → l < 3 → 0 ≤ I 1390 l ∧ I 1390 l ≤ 1000) ∧ (∀ p, 0 ≤ p → p < 10 → 0 ≤ I 1393 p) ∧ ∀ x : Int, 0 ≤ x → x < n → I 1387 x ≠ 0 → I (q + 3) x = 1 → (0 ≤ I 1388 x ∧ I 1388 x ≤ 1000) ∧ (0 ≤ I (q + 4) (x * 4 + 0) ∧ I (q + 4) (x * 4 + 0) ≤ 1000) ∧ (0 ≤ afP I q x ∧ afP I q x < 10) ∧ 0 ≤ I 1392 (afP I q x) ∧ I 1392 (afP I q x) < 3
theorem afL_b {n : Nat} (hq : 10000 ≤ q) (h : AfOK I q n) : ∀ m, m ≤ n → ∀ l, 0 ≤ l → l < 3 → 0 ≤ afL I q m 1390 l ∧ afL I q m 1390 l ≤ 1000 := by
  intro m
  induction m with
  | zero => exact fun _ => h.1
  | succ m ihZ =>
    intro hmZ l h0 h3
    have bZ := ihZ (by omega)
    by_cases yZ : afS (afL I q m) q m
    · rw [afL_yes yZ]
      obtain ⟨y1, y2⟩ := yZ
      rw [afL_o (by decide)] at y1
      rw [afL_o (by omega)] at y2
      obtain ⟨-, -, g3Z, g4⟩ := h.2.2 m (by omega) (by omega) y1 y2
      have e1Z : afP (afL I q m) q m = afP I q m := by
        unfold afP; rw [afL_o (by decide), afL_o (by omega)]
      have e2Z : 0 ≤ afD (afL I q m) q m := by
        unfold afD
        split
        · rw [e1Z, afL_o (by decide)]; exact h.2.1 _ g3Z.1 g3Z.2
        · omega
      unfold afO
      rw [e1Z, afL_o (o := 1392) (by decide)]
      split
      · exact bZ l h0 h3
      · rw [up2_if]
        split
        · have := mDiv_b3 (bZ l h0 h3) (by decide) e2Z
          next eZ => rw [← eZ]; omega
        · exact bZ l h0 h3
    · rw [afL_no yZ]; exact bZ l h0 h3
theorem sp_Planner_applyFilters {n : Nat} (hC : ClW K P) (hQ : QuW K P q) (hq : 10000 ≤ q) (h12 : n ≤ 12) (hr : AfOK I q n) : Sp m_Planner_applyFilters false (rmv 2 90) (ex K P J (afL I q n) (.inl none)) K P J I [vR (some 1384), vR (some q), vI (n : Int)] := by
  refine Sp.ofV (by decide) (Or.inr rfl) rfl ?_
  have loopZ : ∀ mZ x : Nat, x + mZ = n → VW m_Planner_applyFilters false (rmv 2 90) (ex K P J (afL I q n) (.inl none)) K P J (afL I q x) 0 0 2 [(0, vR (some 1384)), (1, vR (some q)), (2, vI (n : Int)), (3, vI (x : Int))] [] := by
    intro mZ
    induction mZ with
    | zero =>
      intro x hx
      have ex0 : x = n := by omega
      subst ex0
      refine VW.iload_n (pc' := 3) d_Planner_applyFilters_2 rfl rfl ?_
      refine VW.iload_n (pc' := 4) d_Planner_applyFilters_3 rfl rfl ?_
      refine VW.icmp_ge (tgt := 128) (pc' := 7) d_Planner_applyFilters_4 rfl rfl (fun c4 => ?_) (fun c4 => ?_)
      case refine_2 => exact absurd c4 (by omega)
      exact VW.vret d_Planner_applyFilters_128 rfl (Nat.zero_le _) (Nat.zero_le _) ex_rf
    | succ mZ ihZ =>
      intro x hx
      have i1Z := ihZ (x + 1) (by omega)
      rw [show ((x + 1 : Nat) : Int) = (x : Int) + 1 by omega] at i1Z
      have lb := afL_b hq hr x (by omega)
      have o3Z : afL I q x (q + 3) = I (q + 3) := afL_o (by omega) x
      have o4Z : afL I q x (q + 4) = I (q + 4) := afL_o (by omega) x
      have o7 : afL I q x 1387 = I 1387 := afL_o (by decide) x
      have o8Z : afL I q x 1388 = I 1388 := afL_o (by decide) x
      have o9 : afL I q x 1392 = I 1392 := afL_o (by decide) x
      have oa : afL I q x 1393 = I 1393 := afL_o (by decide) x
      have hv := hr.2.1
      have ho := hr.2.2 x (by omega) (by omega)
      have ea : afP (afL I q x) q x = afP I q x := by unfold afP; rw [o4Z, o8Z]
      rw [← ea, ← o3Z, ← o4Z, ← o7, ← o8Z, ← o9] at ho
      rw [← oa] at hv
      have noZ : ¬ afS (afL I q x) q x → afL I q (x + 1) = afL I q x := fun yZ => afL_no yZ
      have yesZ : afS (afL I q x) q x → afL I q (x + 1) = afO (afL I q x) q x := fun yZ => afL_yes yZ
      have x12 : 0 ≤ (x : Int) ∧ (x : Int) < 12 := by omega
      clear ihZ o3Z o4Z o7 o8Z o9 oa ea
      generalize afL I q (x + 1) = T at *
      generalize afL I q x = S at *
      have skipZ : ¬ afS S q x → VW m_Planner_applyFilters false (rmv 2 90) (ex K P J (afL I q n) (.inl none)) K P J S 0 0 2 [(0, vR (some 1384)), (1, vR (some q)), (2, vI (n : Int)), (3, vI ((x : Int) + 1))] [] := fun yZ => by
        have := i1Z
        rw [noZ yZ] at this
        exact this
      have freeZ : S 1387 x ≠ 0 → S (q + 3) x = 1 → S 1391 (S 1392 (S 1388 x + S (q + 4) ((x : Int) * 4 + 0))) = 0 → VW m_Planner_applyFilters false (rmv 2 90) (ex K P J (afL I q n) (.inl none)) K P J S 0 0 2 [(0, vR (some 1384)), (1, vR (some q)), (2, vI (n : Int)), (3, vI ((x : Int) + 1))] [] := fun y1 y2 y3 => by
        have := i1Z
        rw [yesZ ⟨y1, y2⟩] at this
        unfold afO at this
        rw [if_pos (show S 1391 (S 1392 (afP S q x)) = 0 from y3)] at this
        exact this
      have goesZ : ∀ dZZ : Int, S 1387 x ≠ 0 → S (q + 3) x = 1 → S 1391 (S 1392 (S 1388 x + S (q + 4) ((x : Int) * 4 + 0))) ≠ 0 → (S (q + 4) ((x : Int) * 4 + 1) = 1 ∧ S (q + 4) ((x : Int) * 4 + 3) = 0 → dZZ = S 1393 (S 1388 x + S (q + 4) ((x : Int) * 4 + 0))) → (¬ (S (q + 4) ((x : Int) * 4 + 1) = 1 ∧ S (q + 4) ((x : Int) * 4 + 3) = 0) → dZZ = 3) → Sp m_Planner_divided false (rmv 1 30) (ex K P J S (.inl (some (vI (mDiv (S 1390 (S 1392 (S 1388 x + S (q + 4) ((x : Int) * 4 + 0)))) dZZ))))) K P J S [vI (S 1390 (S 1392 (S 1388 x + S (q + 4) ((x : Int) * 4 + 0)))), vI dZZ] ∧ VW m_Planner_applyFilters false (rmv 2 90) (ex K P J (afL I q n) (.inl none)) K P J (up2 S 1390 (S 1392 (S 1388 x + S (q + 4) ((x : Int) * 4 + 0))) (mDiv (S 1390 (S 1392 (S 1388 x + S (q + 4) ((x : Int) * 4 + 0)))) dZZ)) 0 0 2 [(0, vR (some 1384)), (1, vR (some q)), (2, vI (n : Int)), (3, vI ((x : Int) + 1))] [] := by
        intro dZZ y1 y2 y3 d1Z d2Z
        obtain ⟨-, -, g3Z, g4⟩ := ho y1 y2
        have gl := lb _ g4.1 g4.2
        have ed : dZZ = afD S q x := by
          unfold afD
          by_cases yZ : S (q + 4) ((x : Int) * 4 + 1) = 1 ∧ S (q + 4) ((x : Int) * 4 + 3) = 0
          · rw [if_pos yZ]; exact d1Z yZ
          · rw [if_neg yZ]; exact d2Z yZ
        have d0Z : 0 ≤ dZZ := by
          by_cases yZ : S (q + 4) ((x : Int) * 4 + 1) = 1 ∧ S (q + 4) ((x : Int) * 4 + 3) = 0
          · rw [d1Z yZ]; exact hv _ g3Z.1 g3Z.2
          · rw [d2Z yZ]; omega
        refine ⟨sp_Planner_divided ⟨gl.1, Int.le_trans gl.2 (by decide)⟩ d0Z, ?_⟩
        have := i1Z
        rw [yesZ ⟨y1, y2⟩] at this
        unfold afO at this
        rw [if_neg (show ¬ S 1391 (S 1392 (afP S q x)) = 0 from y3), ← ed] at this
        exact this
      have parZ : ∀ z : Int, 0 ≤ z ∧ z < 4 → Sp m_Query_parameter false (rmv 0 0) (ex K P J S (.inl (some (vI (S (q + 4) ((x : Int) * 4 + z)))))) K P J S [vR (some q), vI x, vI z] := fun z hz => sp_Query_parameter hQ x12 hz
      have p0Z := parZ 0 (by decide)
      have p1Z := parZ 1 (by decide)
      have p3Z := parZ 3 (by decide)
      have r0 : S 1387 x ≠ 0 → S (q + 3) x = 1 → (0 ≤ S 1388 x ∧ S 1388 x ≤ 1000) ∧ (0 ≤ S (q + 4) ((x : Int) * 4 + 0) ∧ S (q + 4) ((x : Int) * 4 + 0) ≤ 1000) ∧ (0 ≤ S 1388 x + S (q + 4) ((x : Int) * 4 + 0) ∧ S 1388 x + S (q + 4) ((x : Int) * 4 + 0) < 10) ∧ 0 ≤ S 1392 (S 1388 x + S (q + 4) ((x : Int) * 4 + 0)) ∧ S 1392 (S 1388 x + S (q + 4) ((x : Int) * 4 + 0)) < 3 := ho
      clear i1Z yesZ noZ parZ lb ho
      refine VW.iload_n (pc' := 3) d_Planner_applyFilters_2 rfl rfl ?_
      refine VW.iload_n (pc' := 4) d_Planner_applyFilters_3 rfl rfl ?_
      refine VW.icmp_ge (tgt := 128) (pc' := 7) d_Planner_applyFilters_4 rfl rfl (fun c4 => ?_) (fun c4 => ?_)
      case refine_1 => exact absurd c4 (by omega)
      refine VW.aload_n (pc' := 8) d_Planner_applyFilters_7 rfl rfl ?_
      refine VW.gP (ci := 3) (T := T3) (N := 14) (k := 2) (k' := 2) (pc' := 11) d_Planner_applyFilters_8 rfl lk_Planner_18 in3 rfl rfl rfl rfl (by first | exact hQ.k | exact hQ.k2 | exact hQ.k3 | exact hQ.k4 | exact hQ.k5 | exact hQ.k6 | exact hC.k 39 rfl | exact hC.k 40 rfl | exact hC.k 41 rfl | exact hC.k 42 rfl | exact hC.k 43 rfl | exact hC.k 44 rfl | exact hC.k 45 rfl | exact hC.k 46 rfl | exact hC.k 47 rfl | exact hC.k 48 rfl | exact hC.k 49 rfl) (by first | exact hQ.p2 | exact hQ.p3 | exact hQ.p4 | exact hQ.p5 | exact hQ.p6 | exact hC.p 42 rfl | exact hC.p 43 rfl | exact hC.p 44 rfl | exact hC.p 45 rfl | exact hC.p 46 rfl | exact hC.p 47 rfl | exact hC.p 48 rfl | exact hC.p 49 rfl | exact hC.p 50 rfl | exact hC.p 51 rfl | rfl) ?_
      refine VW.iload_n (pc' := 12) d_Planner_applyFilters_11 rfl rfl ?_
      refine VW.zld (pc' := 13) d_Planner_applyFilters_12 rfl (by first | exact hQ.k | exact hQ.k2 | exact hQ.k3 | exact hQ.k4 | exact hQ.k5 | exact hQ.k6 | exact hC.k 39 rfl | exact hC.k 40 rfl | exact hC.k 41 rfl | exact hC.k 42 rfl | exact hC.k 43 rfl | exact hC.k 44 rfl | exact hC.k 45 rfl | exact hC.k 46 rfl | exact hC.k 47 rfl | exact hC.k 48 rfl | exact hC.k 49 rfl) (by first | omega | (have wZ := r0 c13 c23; omega)) (by first | omega | (have wZ := r0 c13 c23; omega)) (by first | exact hQ.p2 | exact hQ.p3 | exact hQ.p4 | exact hQ.p5 | exact hQ.p6 | exact hC.p 42 rfl | exact hC.p 43 rfl | exact hC.p 44 rfl | exact hC.p 45 rfl | exact hC.p 46 rfl | exact hC.p 47 rfl | exact hC.p 48 rfl | exact hC.p 49 rfl | exact hC.p 50 rfl | exact hC.p 51 rfl | rfl) ?_
      refine VW.if_eq (tgt := 122) (pc' := 16) d_Planner_applyFilters_13 rfl rfl (fun c13 => ?_) (fun c13 => ?_)
      · try have e13Z := bIe c13
        refine VW.iinc (pc' := 125) d_Planner_applyFilters_122 rfl rfl rfl (by first | omega | (have wZ := r0 c13 c23; omega)) ?_
        refine VW.goto (pc' := 2) d_Planner_applyFilters_125 rfl ?_
        refine VW.pick [0, 1, 2, 3] ?_
        first | exact skipZ (fun z => z.1 c13) | exact skipZ (fun z => c23 z.2) | exact freeZ c13 c23 c86 | exact (goesZ (S 1393 (S 1388 x + S (q + 4) ((x : Int) * 4 + 0))) c13 c23 c86 (fun _ => rfl) (fun z => (z ⟨c60, c69⟩).elim)).2 | exact (goesZ 3 c13 c23 c86 (fun z => (c60 z.1).elim) (fun _ => rfl)).2 | exact (goesZ 3 c13 c23 c86 (fun z => (c69 z.2).elim) (fun _ => rfl)).2
      · try have e13Z := bIn c13
        refine VW.aload_n (pc' := 17) d_Planner_applyFilters_16 rfl rfl ?_
        refine VW.gP (ci := 4) (T := T4) (N := 13) (k := 2) (k' := 2) (pc' := 20) d_Planner_applyFilters_17 rfl lk_Planner_111 in4 rfl rfl rfl rfl (by first | exact hQ.k | exact hQ.k2 | exact hQ.k3 | exact hQ.k4 | exact hQ.k5 | exact hQ.k6 | exact hC.k 39 rfl | exact hC.k 40 rfl | exact hC.k 41 rfl | exact hC.k 42 rfl | exact hC.k 43 rfl | exact hC.k 44 rfl | exact hC.k 45 rfl | exact hC.k 46 rfl | exact hC.k 47 rfl | exact hC.k 48 rfl | exact hC.k 49 rfl) (by first | exact hQ.p2 | exact hQ.p3 | exact hQ.p4 | exact hQ.p5 | exact hQ.p6 | exact hC.p 42 rfl | exact hC.p 43 rfl | exact hC.p 44 rfl | exact hC.p 45 rfl | exact hC.p 46 rfl | exact hC.p 47 rfl | exact hC.p 48 rfl | exact hC.p 49 rfl | exact hC.p 50 rfl | exact hC.p 51 rfl | rfl) ?_
        refine VW.iload_n (pc' := 21) d_Planner_applyFilters_20 rfl rfl ?_
        refine VW.ild (pc' := 22) d_Planner_applyFilters_21 rfl (by first | exact hQ.k | exact hQ.k2 | exact hQ.k3 | exact hQ.k4 | exact hQ.k5 | exact hQ.k6 | exact hC.k 39 rfl | exact hC.k 40 rfl | exact hC.k 41 rfl | exact hC.k 42 rfl | exact hC.k 43 rfl | exact hC.k 44 rfl | exact hC.k 45 rfl | exact hC.k 46 rfl | exact hC.k 47 rfl | exact hC.k 48 rfl | exact hC.k 49 rfl) (by first | omega | (have wZ := r0 c13 c23; omega)) (by first | omega | (have wZ := r0 c13 c23; omega)) (by first | exact hQ.p2 | exact hQ.p3 | exact hQ.p4 | exact hQ.p5 | exact hQ.p6 | exact hC.p 42 rfl | exact hC.p 43 rfl | exact hC.p 44 rfl | exact hC.p 45 rfl | exact hC.p 46 rfl | exact hC.p 47 rfl | exact hC.p 48 rfl | exact hC.p 49 rfl | exact hC.p 50 rfl | exact hC.p 51 rfl | rfl) ?_
        refine VW.iconst (pc' := 23) d_Planner_applyFilters_22 rfl (by decide) ?_
        refine VW.icmp_eq (tgt := 29) (pc' := 26) d_Planner_applyFilters_23 rfl rfl (fun c23 => ?_) (fun c23 => ?_)
        · refine VW.aload_n (pc' := 30) d_Planner_applyFilters_29 rfl rfl ?_
          refine VW.gP (ci := 3) (T := T3) (N := 14) (k := 3) (k' := 3) (pc' := 33) d_Planner_applyFilters_30 rfl lk_Planner_22 in3 rfl rfl rfl rfl (by first | exact hQ.k | exact hQ.k2 | exact hQ.k3 | exact hQ.k4 | exact hQ.k5 | exact hQ.k6 | exact hC.k 39 rfl | exact hC.k 40 rfl | exact hC.k 41 rfl | exact hC.k 42 rfl | exact hC.k 43 rfl | exact hC.k 44 rfl | exact hC.k 45 rfl | exact hC.k 46 rfl | exact hC.k 47 rfl | exact hC.k 48 rfl | exact hC.k 49 rfl) (by first | exact hQ.p2 | exact hQ.p3 | exact hQ.p4 | exact hQ.p5 | exact hQ.p6 | exact hC.p 42 rfl | exact hC.p 43 rfl | exact hC.p 44 rfl | exact hC.p 45 rfl | exact hC.p 46 rfl | exact hC.p 47 rfl | exact hC.p 48 rfl | exact hC.p 49 rfl | exact hC.p 50 rfl | exact hC.p 51 rfl | rfl) ?_
          refine VW.iload_n (pc' := 34) d_Planner_applyFilters_33 rfl rfl ?_
          refine VW.ild (pc' := 35) d_Planner_applyFilters_34 rfl (by first | exact hQ.k | exact hQ.k2 | exact hQ.k3 | exact hQ.k4 | exact hQ.k5 | exact hQ.k6 | exact hC.k 39 rfl | exact hC.k 40 rfl | exact hC.k 41 rfl | exact hC.k 42 rfl | exact hC.k 43 rfl | exact hC.k 44 rfl | exact hC.k 45 rfl | exact hC.k 46 rfl | exact hC.k 47 rfl | exact hC.k 48 rfl | exact hC.k 49 rfl) (by first | omega | (have wZ := r0 c13 c23; omega)) (by first | omega | (have wZ := r0 c13 c23; omega)) (by first | exact hQ.p2 | exact hQ.p3 | exact hQ.p4 | exact hQ.p5 | exact hQ.p6 | exact hC.p 42 rfl | exact hC.p 43 rfl | exact hC.p 44 rfl | exact hC.p 45 rfl | exact hC.p 46 rfl | exact hC.p 47 rfl | exact hC.p 48 rfl | exact hC.p 49 rfl | exact hC.p 50 rfl | exact hC.p 51 rfl | rfl) ?_
          refine VW.aload_n (pc' := 36) d_Planner_applyFilters_35 rfl rfl ?_
          refine VW.iload_n (pc' := 37) d_Planner_applyFilters_36 rfl rfl ?_
          refine VW.iconst (pc' := 38) d_Planner_applyFilters_37 rfl (by decide) ?_
          refine VW.cV (ci := 4) (T := T4) (N := 13) (pc' := 41) d_Planner_applyFilters_38 rfl mv_Query_parameter lk_Planner_130 rfl (by first | exact hQ.k | exact hQ.k2 | exact hQ.k3 | exact hQ.k4 | exact hQ.k5 | exact hQ.k6 | exact hC.k 39 rfl | exact hC.k 40 rfl | exact hC.k 41 rfl | exact hC.k 42 rfl | exact hC.k 43 rfl | exact hC.k 44 rfl | exact hC.k 45 rfl | exact hC.k 46 rfl | exact hC.k 47 rfl | exact hC.k 48 rfl | exact hC.k 49 rfl) rfl rfl rfl (Nat.le_refl _) (Nat.le_refl _) (p0Z) rfl rfl ?_
          refine VW.iadd (pc' := 42) d_Planner_applyFilters_41 rfl (by first | omega | (have wZ := r0 c13 c23; omega)) ?_
          refine VW.istore (pc' := 44) d_Planner_applyFilters_42 rfl rfl ?_
          refine VW.aload_n (pc' := 45) d_Planner_applyFilters_44 rfl rfl ?_
          refine VW.gP (ci := 3) (T := T3) (N := 14) (k := 7) (k' := 7) (pc' := 48) d_Planner_applyFilters_45 rfl lk_Planner_31 in3 rfl rfl rfl rfl (by first | exact hQ.k | exact hQ.k2 | exact hQ.k3 | exact hQ.k4 | exact hQ.k5 | exact hQ.k6 | exact hC.k 39 rfl | exact hC.k 40 rfl | exact hC.k 41 rfl | exact hC.k 42 rfl | exact hC.k 43 rfl | exact hC.k 44 rfl | exact hC.k 45 rfl | exact hC.k 46 rfl | exact hC.k 47 rfl | exact hC.k 48 rfl | exact hC.k 49 rfl) (by first | exact hQ.p2 | exact hQ.p3 | exact hQ.p4 | exact hQ.p5 | exact hQ.p6 | exact hC.p 42 rfl | exact hC.p 43 rfl | exact hC.p 44 rfl | exact hC.p 45 rfl | exact hC.p 46 rfl | exact hC.p 47 rfl | exact hC.p 48 rfl | exact hC.p 49 rfl | exact hC.p 50 rfl | exact hC.p 51 rfl | rfl) ?_
          refine VW.iload (pc' := 50) d_Planner_applyFilters_48 rfl rfl ?_
          refine VW.ild (pc' := 51) d_Planner_applyFilters_50 rfl (by first | exact hQ.k | exact hQ.k2 | exact hQ.k3 | exact hQ.k4 | exact hQ.k5 | exact hQ.k6 | exact hC.k 39 rfl | exact hC.k 40 rfl | exact hC.k 41 rfl | exact hC.k 42 rfl | exact hC.k 43 rfl | exact hC.k 44 rfl | exact hC.k 45 rfl | exact hC.k 46 rfl | exact hC.k 47 rfl | exact hC.k 48 rfl | exact hC.k 49 rfl) (by first | omega | (have wZ := r0 c13 c23; omega)) (by first | omega | (have wZ := r0 c13 c23; omega)) (by first | exact hQ.p2 | exact hQ.p3 | exact hQ.p4 | exact hQ.p5 | exact hQ.p6 | exact hC.p 42 rfl | exact hC.p 43 rfl | exact hC.p 44 rfl | exact hC.p 45 rfl | exact hC.p 46 rfl | exact hC.p 47 rfl | exact hC.p 48 rfl | exact hC.p 49 rfl | exact hC.p 50 rfl | exact hC.p 51 rfl | rfl) ?_
          refine VW.istore (pc' := 53) d_Planner_applyFilters_51 rfl rfl ?_
          refine VW.aload_n (pc' := 54) d_Planner_applyFilters_53 rfl rfl ?_
          refine VW.iload_n (pc' := 55) d_Planner_applyFilters_54 rfl rfl ?_
          refine VW.iconst (pc' := 56) d_Planner_applyFilters_55 rfl (by decide) ?_
          refine VW.cV (ci := 4) (T := T4) (N := 13) (pc' := 59) d_Planner_applyFilters_56 rfl mv_Query_parameter lk_Planner_130 rfl (by first | exact hQ.k | exact hQ.k2 | exact hQ.k3 | exact hQ.k4 | exact hQ.k5 | exact hQ.k6 | exact hC.k 39 rfl | exact hC.k 40 rfl | exact hC.k 41 rfl | exact hC.k 42 rfl | exact hC.k 43 rfl | exact hC.k 44 rfl | exact hC.k 45 rfl | exact hC.k 46 rfl | exact hC.k 47 rfl | exact hC.k 48 rfl | exact hC.k 49 rfl) rfl rfl rfl (Nat.le_refl _) (Nat.le_refl _) (p1Z) rfl rfl ?_
          refine VW.iconst (pc' := 60) d_Planner_applyFilters_59 rfl (by decide) ?_
          refine VW.icmp_ne (tgt := 76) (pc' := 63) d_Planner_applyFilters_60 rfl rfl (fun c60 => ?_) (fun c60 => ?_)
          · refine VW.iconst (pc' := 77) d_Planner_applyFilters_76 rfl (by decide) ?_
            refine VW.istore (pc' := 79) d_Planner_applyFilters_77 rfl rfl ?_
            refine VW.aload_n (pc' := 80) d_Planner_applyFilters_79 rfl rfl ?_
            refine VW.gP (ci := 3) (T := T3) (N := 14) (k := 6) (k' := 6) (pc' := 83) d_Planner_applyFilters_80 rfl lk_Planner_28 in3 rfl rfl rfl rfl (by first | exact hQ.k | exact hQ.k2 | exact hQ.k3 | exact hQ.k4 | exact hQ.k5 | exact hQ.k6 | exact hC.k 39 rfl | exact hC.k 40 rfl | exact hC.k 41 rfl | exact hC.k 42 rfl | exact hC.k 43 rfl | exact hC.k 44 rfl | exact hC.k 45 rfl | exact hC.k 46 rfl | exact hC.k 47 rfl | exact hC.k 48 rfl | exact hC.k 49 rfl) (by first | exact hQ.p2 | exact hQ.p3 | exact hQ.p4 | exact hQ.p5 | exact hQ.p6 | exact hC.p 42 rfl | exact hC.p 43 rfl | exact hC.p 44 rfl | exact hC.p 45 rfl | exact hC.p 46 rfl | exact hC.p 47 rfl | exact hC.p 48 rfl | exact hC.p 49 rfl | exact hC.p 50 rfl | exact hC.p 51 rfl | rfl) ?_
            refine VW.iload (pc' := 85) d_Planner_applyFilters_83 rfl rfl ?_
            refine VW.zld (pc' := 86) d_Planner_applyFilters_85 rfl (by first | exact hQ.k | exact hQ.k2 | exact hQ.k3 | exact hQ.k4 | exact hQ.k5 | exact hQ.k6 | exact hC.k 39 rfl | exact hC.k 40 rfl | exact hC.k 41 rfl | exact hC.k 42 rfl | exact hC.k 43 rfl | exact hC.k 44 rfl | exact hC.k 45 rfl | exact hC.k 46 rfl | exact hC.k 47 rfl | exact hC.k 48 rfl | exact hC.k 49 rfl) (by first | omega | (have wZ := r0 c13 c23; omega)) (by first | omega | (have wZ := r0 c13 c23; omega)) (by first | exact hQ.p2 | exact hQ.p3 | exact hQ.p4 | exact hQ.p5 | exact hQ.p6 | exact hC.p 42 rfl | exact hC.p 43 rfl | exact hC.p 44 rfl | exact hC.p 45 rfl | exact hC.p 46 rfl | exact hC.p 47 rfl | exact hC.p 48 rfl | exact hC.p 49 rfl | exact hC.p 50 rfl | exact hC.p 51 rfl | rfl) ?_
            refine VW.if_eq (tgt := 122) (pc' := 89) d_Planner_applyFilters_86 rfl rfl (fun c86 => ?_) (fun c86 => ?_)
            · try have e86 := bIe c86
              refine VW.iinc (pc' := 125) d_Planner_applyFilters_122 rfl rfl rfl (by first | omega | (have wZ := r0 c13 c23; omega)) ?_
              refine VW.goto (pc' := 2) d_Planner_applyFilters_125 rfl ?_
              refine VW.pick [0, 1, 2, 3] ?_
              first | exact skipZ (fun z => z.1 c13) | exact skipZ (fun z => c23 z.2) | exact freeZ c13 c23 c86 | exact (goesZ (S 1393 (S 1388 x + S (q + 4) ((x : Int) * 4 + 0))) c13 c23 c86 (fun _ => rfl) (fun z => (z ⟨c60, c69⟩).elim)).2 | exact (goesZ 3 c13 c23 c86 (fun z => (c60 z.1).elim) (fun _ => rfl)).2 | exact (goesZ 3 c13 c23 c86 (fun z => (c69 z.2).elim) (fun _ => rfl)).2
            · try have e86 := bIn c86
              refine VW.aload_n (pc' := 90) d_Planner_applyFilters_89 rfl rfl ?_
              refine VW.gP (ci := 3) (T := T3) (N := 14) (k := 5) (k' := 5) (pc' := 93) d_Planner_applyFilters_90 rfl lk_Planner_25 in3 rfl rfl rfl rfl (by first | exact hQ.k | exact hQ.k2 | exact hQ.k3 | exact hQ.k4 | exact hQ.k5 | exact hQ.k6 | exact hC.k 39 rfl | exact hC.k 40 rfl | exact hC.k 41 rfl | exact hC.k 42 rfl | exact hC.k 43 rfl | exact hC.k 44 rfl | exact hC.k 45 rfl | exact hC.k 46 rfl | exact hC.k 47 rfl | exact hC.k 48 rfl | exact hC.k 49 rfl) (by first | exact hQ.p2 | exact hQ.p3 | exact hQ.p4 | exact hQ.p5 | exact hQ.p6 | exact hC.p 42 rfl | exact hC.p 43 rfl | exact hC.p 44 rfl | exact hC.p 45 rfl | exact hC.p 46 rfl | exact hC.p 47 rfl | exact hC.p 48 rfl | exact hC.p 49 rfl | exact hC.p 50 rfl | exact hC.p 51 rfl | rfl) ?_
              refine VW.iload (pc' := 95) d_Planner_applyFilters_93 rfl rfl ?_
              refine VW.aload_n (pc' := 96) d_Planner_applyFilters_95 rfl rfl ?_
              refine VW.gP (ci := 3) (T := T3) (N := 14) (k := 5) (k' := 5) (pc' := 99) d_Planner_applyFilters_96 rfl lk_Planner_25 in3 rfl rfl rfl rfl (by first | exact hQ.k | exact hQ.k2 | exact hQ.k3 | exact hQ.k4 | exact hQ.k5 | exact hQ.k6 | exact hC.k 39 rfl | exact hC.k 40 rfl | exact hC.k 41 rfl | exact hC.k 42 rfl | exact hC.k 43 rfl | exact hC.k 44 rfl | exact hC.k 45 rfl | exact hC.k 46 rfl | exact hC.k 47 rfl | exact hC.k 48 rfl | exact hC.k 49 rfl) (by first | exact hQ.p2 | exact hQ.p3 | exact hQ.p4 | exact hQ.p5 | exact hQ.p6 | exact hC.p 42 rfl | exact hC.p 43 rfl | exact hC.p 44 rfl | exact hC.p 45 rfl | exact hC.p 46 rfl | exact hC.p 47 rfl | exact hC.p 48 rfl | exact hC.p 49 rfl | exact hC.p 50 rfl | exact hC.p 51 rfl | rfl) ?_
              refine VW.iload (pc' := 101) d_Planner_applyFilters_99 rfl rfl ?_
              refine VW.ild (pc' := 102) d_Planner_applyFilters_101 rfl (by first | exact hQ.k | exact hQ.k2 | exact hQ.k3 | exact hQ.k4 | exact hQ.k5 | exact hQ.k6 | exact hC.k 39 rfl | exact hC.k 40 rfl | exact hC.k 41 rfl | exact hC.k 42 rfl | exact hC.k 43 rfl | exact hC.k 44 rfl | exact hC.k 45 rfl | exact hC.k 46 rfl | exact hC.k 47 rfl | exact hC.k 48 rfl | exact hC.k 49 rfl) (by first | omega | (have wZ := r0 c13 c23; omega)) (by first | omega | (have wZ := r0 c13 c23; omega)) (by first | exact hQ.p2 | exact hQ.p3 | exact hQ.p4 | exact hQ.p5 | exact hQ.p6 | exact hC.p 42 rfl | exact hC.p 43 rfl | exact hC.p 44 rfl | exact hC.p 45 rfl | exact hC.p 46 rfl | exact hC.p 47 rfl | exact hC.p 48 rfl | exact hC.p 49 rfl | exact hC.p 50 rfl | exact hC.p 51 rfl | rfl) ?_
              refine VW.iload (pc' := 104) d_Planner_applyFilters_102 rfl rfl ?_
              refine VW.if_eq (tgt := 117) (pc' := 107) d_Planner_applyFilters_104 rfl rfl (fun _ => ?_) (fun c104 => absurd c104 (by decide))
              refine VW.iconst (pc' := 118) d_Planner_applyFilters_117 rfl (by decide) ?_
              refine VW.cS (pc' := 121) d_Planner_applyFilters_118 rfl ms_Planner_divided lk_Planner_134 rfl rfl rfl (Nat.le_refl _) (Nat.le_refl _) (by first | exact (goesZ (S 1393 (S 1388 x + S (q + 4) ((x : Int) * 4 + 0))) c13 c23 c86 (fun _ => rfl) (fun z => (z ⟨c60, c69⟩).elim)).1 | exact (goesZ 3 c13 c23 c86 (fun z => (c60 z.1).elim) (fun _ => rfl)).1 | exact (goesZ 3 c13 c23 c86 (fun z => (c69 z.2).elim) (fun _ => rfl)).1) rfl rfl ?_
              refine VW.iast (pc' := 122) d_Planner_applyFilters_121 rfl (by first | exact hQ.k | exact hQ.k2 | exact hQ.k3 | exact hQ.k4 | exact hQ.k5 | exact hQ.k6 | exact hC.k 39 rfl | exact hC.k 40 rfl | exact hC.k 41 rfl | exact hC.k 42 rfl | exact hC.k 43 rfl | exact hC.k 44 rfl | exact hC.k 45 rfl | exact hC.k 46 rfl | exact hC.k 47 rfl | exact hC.k 48 rfl | exact hC.k 49 rfl) (by first | omega | (have wZ := r0 c13 c23; omega)) (by first | omega | (have wZ := r0 c13 c23; omega)) ?_
              refine VW.iinc (pc' := 125) d_Planner_applyFilters_122 rfl rfl rfl (by first | omega | (have wZ := r0 c13 c23; omega)) ?_
              refine VW.goto (pc' := 2) d_Planner_applyFilters_125 rfl ?_
              refine VW.pick [0, 1, 2, 3] ?_
              first | exact skipZ (fun z => z.1 c13) | exact skipZ (fun z => c23 z.2) | exact freeZ c13 c23 c86 | exact (goesZ (S 1393 (S 1388 x + S (q + 4) ((x : Int) * 4 + 0))) c13 c23 c86 (fun _ => rfl) (fun z => (z ⟨c60, c69⟩).elim)).2 | exact (goesZ 3 c13 c23 c86 (fun z => (c60 z.1).elim) (fun _ => rfl)).2 | exact (goesZ 3 c13 c23 c86 (fun z => (c69 z.2).elim) (fun _ => rfl)).2
          · refine VW.aload_n (pc' := 64) d_Planner_applyFilters_63 rfl rfl ?_
            refine VW.iload_n (pc' := 65) d_Planner_applyFilters_64 rfl rfl ?_
            refine VW.iconst (pc' := 66) d_Planner_applyFilters_65 rfl (by decide) ?_
            refine VW.cV (ci := 4) (T := T4) (N := 13) (pc' := 69) d_Planner_applyFilters_66 rfl mv_Query_parameter lk_Planner_130 rfl (by first | exact hQ.k | exact hQ.k2 | exact hQ.k3 | exact hQ.k4 | exact hQ.k5 | exact hQ.k6 | exact hC.k 39 rfl | exact hC.k 40 rfl | exact hC.k 41 rfl | exact hC.k 42 rfl | exact hC.k 43 rfl | exact hC.k 44 rfl | exact hC.k 45 rfl | exact hC.k 46 rfl | exact hC.k 47 rfl | exact hC.k 48 rfl | exact hC.k 49 rfl) rfl rfl rfl (Nat.le_refl _) (Nat.le_refl _) (p3Z) rfl rfl ?_
            refine VW.if_ne (tgt := 76) (pc' := 72) d_Planner_applyFilters_69 rfl rfl (fun c69 => ?_) (fun c69 => ?_)
            · try have e69 := bIn c69
              refine VW.iconst (pc' := 77) d_Planner_applyFilters_76 rfl (by decide) ?_
              refine VW.istore (pc' := 79) d_Planner_applyFilters_77 rfl rfl ?_
              refine VW.aload_n (pc' := 80) d_Planner_applyFilters_79 rfl rfl ?_
              refine VW.gP (ci := 3) (T := T3) (N := 14) (k := 6) (k' := 6) (pc' := 83) d_Planner_applyFilters_80 rfl lk_Planner_28 in3 rfl rfl rfl rfl (by first | exact hQ.k | exact hQ.k2 | exact hQ.k3 | exact hQ.k4 | exact hQ.k5 | exact hQ.k6 | exact hC.k 39 rfl | exact hC.k 40 rfl | exact hC.k 41 rfl | exact hC.k 42 rfl | exact hC.k 43 rfl | exact hC.k 44 rfl | exact hC.k 45 rfl | exact hC.k 46 rfl | exact hC.k 47 rfl | exact hC.k 48 rfl | exact hC.k 49 rfl) (by first | exact hQ.p2 | exact hQ.p3 | exact hQ.p4 | exact hQ.p5 | exact hQ.p6 | exact hC.p 42 rfl | exact hC.p 43 rfl | exact hC.p 44 rfl | exact hC.p 45 rfl | exact hC.p 46 rfl | exact hC.p 47 rfl | exact hC.p 48 rfl | exact hC.p 49 rfl | exact hC.p 50 rfl | exact hC.p 51 rfl | rfl) ?_
              refine VW.iload (pc' := 85) d_Planner_applyFilters_83 rfl rfl ?_
              refine VW.zld (pc' := 86) d_Planner_applyFilters_85 rfl (by first | exact hQ.k | exact hQ.k2 | exact hQ.k3 | exact hQ.k4 | exact hQ.k5 | exact hQ.k6 | exact hC.k 39 rfl | exact hC.k 40 rfl | exact hC.k 41 rfl | exact hC.k 42 rfl | exact hC.k 43 rfl | exact hC.k 44 rfl | exact hC.k 45 rfl | exact hC.k 46 rfl | exact hC.k 47 rfl | exact hC.k 48 rfl | exact hC.k 49 rfl) (by first | omega | (have wZ := r0 c13 c23; omega)) (by first | omega | (have wZ := r0 c13 c23; omega)) (by first | exact hQ.p2 | exact hQ.p3 | exact hQ.p4 | exact hQ.p5 | exact hQ.p6 | exact hC.p 42 rfl | exact hC.p 43 rfl | exact hC.p 44 rfl | exact hC.p 45 rfl | exact hC.p 46 rfl | exact hC.p 47 rfl | exact hC.p 48 rfl | exact hC.p 49 rfl | exact hC.p 50 rfl | exact hC.p 51 rfl | rfl) ?_
              refine VW.if_eq (tgt := 122) (pc' := 89) d_Planner_applyFilters_86 rfl rfl (fun c86 => ?_) (fun c86 => ?_)
              · try have e86 := bIe c86
                refine VW.iinc (pc' := 125) d_Planner_applyFilters_122 rfl rfl rfl (by first | omega | (have wZ := r0 c13 c23; omega)) ?_
                refine VW.goto (pc' := 2) d_Planner_applyFilters_125 rfl ?_
                refine VW.pick [0, 1, 2, 3] ?_
                first | exact skipZ (fun z => z.1 c13) | exact skipZ (fun z => c23 z.2) | exact freeZ c13 c23 c86 | exact (goesZ (S 1393 (S 1388 x + S (q + 4) ((x : Int) * 4 + 0))) c13 c23 c86 (fun _ => rfl) (fun z => (z ⟨c60, c69⟩).elim)).2 | exact (goesZ 3 c13 c23 c86 (fun z => (c60 z.1).elim) (fun _ => rfl)).2 | exact (goesZ 3 c13 c23 c86 (fun z => (c69 z.2).elim) (fun _ => rfl)).2
              · try have e86 := bIn c86
                refine VW.aload_n (pc' := 90) d_Planner_applyFilters_89 rfl rfl ?_
                refine VW.gP (ci := 3) (T := T3) (N := 14) (k := 5) (k' := 5) (pc' := 93) d_Planner_applyFilters_90 rfl lk_Planner_25 in3 rfl rfl rfl rfl (by first | exact hQ.k | exact hQ.k2 | exact hQ.k3 | exact hQ.k4 | exact hQ.k5 | exact hQ.k6 | exact hC.k 39 rfl | exact hC.k 40 rfl | exact hC.k 41 rfl | exact hC.k 42 rfl | exact hC.k 43 rfl | exact hC.k 44 rfl | exact hC.k 45 rfl | exact hC.k 46 rfl | exact hC.k 47 rfl | exact hC.k 48 rfl | exact hC.k 49 rfl) (by first | exact hQ.p2 | exact hQ.p3 | exact hQ.p4 | exact hQ.p5 | exact hQ.p6 | exact hC.p 42 rfl | exact hC.p 43 rfl | exact hC.p 44 rfl | exact hC.p 45 rfl | exact hC.p 46 rfl | exact hC.p 47 rfl | exact hC.p 48 rfl | exact hC.p 49 rfl | exact hC.p 50 rfl | exact hC.p 51 rfl | rfl) ?_
                refine VW.iload (pc' := 95) d_Planner_applyFilters_93 rfl rfl ?_
                refine VW.aload_n (pc' := 96) d_Planner_applyFilters_95 rfl rfl ?_
                refine VW.gP (ci := 3) (T := T3) (N := 14) (k := 5) (k' := 5) (pc' := 99) d_Planner_applyFilters_96 rfl lk_Planner_25 in3 rfl rfl rfl rfl (by first | exact hQ.k | exact hQ.k2 | exact hQ.k3 | exact hQ.k4 | exact hQ.k5 | exact hQ.k6 | exact hC.k 39 rfl | exact hC.k 40 rfl | exact hC.k 41 rfl | exact hC.k 42 rfl | exact hC.k 43 rfl | exact hC.k 44 rfl | exact hC.k 45 rfl | exact hC.k 46 rfl | exact hC.k 47 rfl | exact hC.k 48 rfl | exact hC.k 49 rfl) (by first | exact hQ.p2 | exact hQ.p3 | exact hQ.p4 | exact hQ.p5 | exact hQ.p6 | exact hC.p 42 rfl | exact hC.p 43 rfl | exact hC.p 44 rfl | exact hC.p 45 rfl | exact hC.p 46 rfl | exact hC.p 47 rfl | exact hC.p 48 rfl | exact hC.p 49 rfl | exact hC.p 50 rfl | exact hC.p 51 rfl | rfl) ?_
                refine VW.iload (pc' := 101) d_Planner_applyFilters_99 rfl rfl ?_
                refine VW.ild (pc' := 102) d_Planner_applyFilters_101 rfl (by first | exact hQ.k | exact hQ.k2 | exact hQ.k3 | exact hQ.k4 | exact hQ.k5 | exact hQ.k6 | exact hC.k 39 rfl | exact hC.k 40 rfl | exact hC.k 41 rfl | exact hC.k 42 rfl | exact hC.k 43 rfl | exact hC.k 44 rfl | exact hC.k 45 rfl | exact hC.k 46 rfl | exact hC.k 47 rfl | exact hC.k 48 rfl | exact hC.k 49 rfl) (by first | omega | (have wZ := r0 c13 c23; omega)) (by first | omega | (have wZ := r0 c13 c23; omega)) (by first | exact hQ.p2 | exact hQ.p3 | exact hQ.p4 | exact hQ.p5 | exact hQ.p6 | exact hC.p 42 rfl | exact hC.p 43 rfl | exact hC.p 44 rfl | exact hC.p 45 rfl | exact hC.p 46 rfl | exact hC.p 47 rfl | exact hC.p 48 rfl | exact hC.p 49 rfl | exact hC.p 50 rfl | exact hC.p 51 rfl | rfl) ?_
                refine VW.iload (pc' := 104) d_Planner_applyFilters_102 rfl rfl ?_
                refine VW.if_eq (tgt := 117) (pc' := 107) d_Planner_applyFilters_104 rfl rfl (fun _ => ?_) (fun c104 => absurd c104 (by decide))
                refine VW.iconst (pc' := 118) d_Planner_applyFilters_117 rfl (by decide) ?_
                refine VW.cS (pc' := 121) d_Planner_applyFilters_118 rfl ms_Planner_divided lk_Planner_134 rfl rfl rfl (Nat.le_refl _) (Nat.le_refl _) (by first | exact (goesZ (S 1393 (S 1388 x + S (q + 4) ((x : Int) * 4 + 0))) c13 c23 c86 (fun _ => rfl) (fun z => (z ⟨c60, c69⟩).elim)).1 | exact (goesZ 3 c13 c23 c86 (fun z => (c60 z.1).elim) (fun _ => rfl)).1 | exact (goesZ 3 c13 c23 c86 (fun z => (c69 z.2).elim) (fun _ => rfl)).1) rfl rfl ?_
                refine VW.iast (pc' := 122) d_Planner_applyFilters_121 rfl (by first | exact hQ.k | exact hQ.k2 | exact hQ.k3 | exact hQ.k4 | exact hQ.k5 | exact hQ.k6 | exact hC.k 39 rfl | exact hC.k 40 rfl | exact hC.k 41 rfl | exact hC.k 42 rfl | exact hC.k 43 rfl | exact hC.k 44 rfl | exact hC.k 45 rfl | exact hC.k 46 rfl | exact hC.k 47 rfl | exact hC.k 48 rfl | exact hC.k 49 rfl) (by first | omega | (have wZ := r0 c13 c23; omega)) (by first | omega | (have wZ := r0 c13 c23; omega)) ?_
                refine VW.iinc (pc' := 125) d_Planner_applyFilters_122 rfl rfl rfl (by first | omega | (have wZ := r0 c13 c23; omega)) ?_
                refine VW.goto (pc' := 2) d_Planner_applyFilters_125 rfl ?_
                refine VW.pick [0, 1, 2, 3] ?_
                first | exact skipZ (fun z => z.1 c13) | exact skipZ (fun z => c23 z.2) | exact freeZ c13 c23 c86 | exact (goesZ (S 1393 (S 1388 x + S (q + 4) ((x : Int) * 4 + 0))) c13 c23 c86 (fun _ => rfl) (fun z => (z ⟨c60, c69⟩).elim)).2 | exact (goesZ 3 c13 c23 c86 (fun z => (c60 z.1).elim) (fun _ => rfl)).2 | exact (goesZ 3 c13 c23 c86 (fun z => (c69 z.2).elim) (fun _ => rfl)).2
            · try have e69 := bIe c69
              refine VW.iconst (pc' := 73) d_Planner_applyFilters_72 rfl (by decide) ?_
              refine VW.goto (pc' := 77) d_Planner_applyFilters_73 rfl ?_
              refine VW.istore (pc' := 79) d_Planner_applyFilters_77 rfl rfl ?_
              refine VW.aload_n (pc' := 80) d_Planner_applyFilters_79 rfl rfl ?_
              refine VW.gP (ci := 3) (T := T3) (N := 14) (k := 6) (k' := 6) (pc' := 83) d_Planner_applyFilters_80 rfl lk_Planner_28 in3 rfl rfl rfl rfl (by first | exact hQ.k | exact hQ.k2 | exact hQ.k3 | exact hQ.k4 | exact hQ.k5 | exact hQ.k6 | exact hC.k 39 rfl | exact hC.k 40 rfl | exact hC.k 41 rfl | exact hC.k 42 rfl | exact hC.k 43 rfl | exact hC.k 44 rfl | exact hC.k 45 rfl | exact hC.k 46 rfl | exact hC.k 47 rfl | exact hC.k 48 rfl | exact hC.k 49 rfl) (by first | exact hQ.p2 | exact hQ.p3 | exact hQ.p4 | exact hQ.p5 | exact hQ.p6 | exact hC.p 42 rfl | exact hC.p 43 rfl | exact hC.p 44 rfl | exact hC.p 45 rfl | exact hC.p 46 rfl | exact hC.p 47 rfl | exact hC.p 48 rfl | exact hC.p 49 rfl | exact hC.p 50 rfl | exact hC.p 51 rfl | rfl) ?_
              refine VW.iload (pc' := 85) d_Planner_applyFilters_83 rfl rfl ?_
              refine VW.zld (pc' := 86) d_Planner_applyFilters_85 rfl (by first | exact hQ.k | exact hQ.k2 | exact hQ.k3 | exact hQ.k4 | exact hQ.k5 | exact hQ.k6 | exact hC.k 39 rfl | exact hC.k 40 rfl | exact hC.k 41 rfl | exact hC.k 42 rfl | exact hC.k 43 rfl | exact hC.k 44 rfl | exact hC.k 45 rfl | exact hC.k 46 rfl | exact hC.k 47 rfl | exact hC.k 48 rfl | exact hC.k 49 rfl) (by first | omega | (have wZ := r0 c13 c23; omega)) (by first | omega | (have wZ := r0 c13 c23; omega)) (by first | exact hQ.p2 | exact hQ.p3 | exact hQ.p4 | exact hQ.p5 | exact hQ.p6 | exact hC.p 42 rfl | exact hC.p 43 rfl | exact hC.p 44 rfl | exact hC.p 45 rfl | exact hC.p 46 rfl | exact hC.p 47 rfl | exact hC.p 48 rfl | exact hC.p 49 rfl | exact hC.p 50 rfl | exact hC.p 51 rfl | rfl) ?_
              refine VW.if_eq (tgt := 122) (pc' := 89) d_Planner_applyFilters_86 rfl rfl (fun c86 => ?_) (fun c86 => ?_)
              · try have e86 := bIe c86
                refine VW.iinc (pc' := 125) d_Planner_applyFilters_122 rfl rfl rfl (by first | omega | (have wZ := r0 c13 c23; omega)) ?_
                refine VW.goto (pc' := 2) d_Planner_applyFilters_125 rfl ?_
                refine VW.pick [0, 1, 2, 3] ?_
                first | exact skipZ (fun z => z.1 c13) | exact skipZ (fun z => c23 z.2) | exact freeZ c13 c23 c86 | exact (goesZ (S 1393 (S 1388 x + S (q + 4) ((x : Int) * 4 + 0))) c13 c23 c86 (fun _ => rfl) (fun z => (z ⟨c60, c69⟩).elim)).2 | exact (goesZ 3 c13 c23 c86 (fun z => (c60 z.1).elim) (fun _ => rfl)).2 | exact (goesZ 3 c13 c23 c86 (fun z => (c69 z.2).elim) (fun _ => rfl)).2
              · try have e86 := bIn c86
                refine VW.aload_n (pc' := 90) d_Planner_applyFilters_89 rfl rfl ?_
                refine VW.gP (ci := 3) (T := T3) (N := 14) (k := 5) (k' := 5) (pc' := 93) d_Planner_applyFilters_90 rfl lk_Planner_25 in3 rfl rfl rfl rfl (by first | exact hQ.k | exact hQ.k2 | exact hQ.k3 | exact hQ.k4 | exact hQ.k5 | exact hQ.k6 | exact hC.k 39 rfl | exact hC.k 40 rfl | exact hC.k 41 rfl | exact hC.k 42 rfl | exact hC.k 43 rfl | exact hC.k 44 rfl | exact hC.k 45 rfl | exact hC.k 46 rfl | exact hC.k 47 rfl | exact hC.k 48 rfl | exact hC.k 49 rfl) (by first | exact hQ.p2 | exact hQ.p3 | exact hQ.p4 | exact hQ.p5 | exact hQ.p6 | exact hC.p 42 rfl | exact hC.p 43 rfl | exact hC.p 44 rfl | exact hC.p 45 rfl | exact hC.p 46 rfl | exact hC.p 47 rfl | exact hC.p 48 rfl | exact hC.p 49 rfl | exact hC.p 50 rfl | exact hC.p 51 rfl | rfl) ?_
                refine VW.iload (pc' := 95) d_Planner_applyFilters_93 rfl rfl ?_
                refine VW.aload_n (pc' := 96) d_Planner_applyFilters_95 rfl rfl ?_
                refine VW.gP (ci := 3) (T := T3) (N := 14) (k := 5) (k' := 5) (pc' := 99) d_Planner_applyFilters_96 rfl lk_Planner_25 in3 rfl rfl rfl rfl (by first | exact hQ.k | exact hQ.k2 | exact hQ.k3 | exact hQ.k4 | exact hQ.k5 | exact hQ.k6 | exact hC.k 39 rfl | exact hC.k 40 rfl | exact hC.k 41 rfl | exact hC.k 42 rfl | exact hC.k 43 rfl | exact hC.k 44 rfl | exact hC.k 45 rfl | exact hC.k 46 rfl | exact hC.k 47 rfl | exact hC.k 48 rfl | exact hC.k 49 rfl) (by first | exact hQ.p2 | exact hQ.p3 | exact hQ.p4 | exact hQ.p5 | exact hQ.p6 | exact hC.p 42 rfl | exact hC.p 43 rfl | exact hC.p 44 rfl | exact hC.p 45 rfl | exact hC.p 46 rfl | exact hC.p 47 rfl | exact hC.p 48 rfl | exact hC.p 49 rfl | exact hC.p 50 rfl | exact hC.p 51 rfl | rfl) ?_
                refine VW.iload (pc' := 101) d_Planner_applyFilters_99 rfl rfl ?_
                refine VW.ild (pc' := 102) d_Planner_applyFilters_101 rfl (by first | exact hQ.k | exact hQ.k2 | exact hQ.k3 | exact hQ.k4 | exact hQ.k5 | exact hQ.k6 | exact hC.k 39 rfl | exact hC.k 40 rfl | exact hC.k 41 rfl | exact hC.k 42 rfl | exact hC.k 43 rfl | exact hC.k 44 rfl | exact hC.k 45 rfl | exact hC.k 46 rfl | exact hC.k 47 rfl | exact hC.k 48 rfl | exact hC.k 49 rfl) (by first | omega | (have wZ := r0 c13 c23; omega)) (by first | omega | (have wZ := r0 c13 c23; omega)) (by first | exact hQ.p2 | exact hQ.p3 | exact hQ.p4 | exact hQ.p5 | exact hQ.p6 | exact hC.p 42 rfl | exact hC.p 43 rfl | exact hC.p 44 rfl | exact hC.p 45 rfl | exact hC.p 46 rfl | exact hC.p 47 rfl | exact hC.p 48 rfl | exact hC.p 49 rfl | exact hC.p 50 rfl | exact hC.p 51 rfl | rfl) ?_
                refine VW.iload (pc' := 104) d_Planner_applyFilters_102 rfl rfl ?_
                refine VW.if_eq (tgt := 117) (pc' := 107) d_Planner_applyFilters_104 rfl rfl (fun c104 => absurd c104 (by decide)) (fun _ => ?_)
                refine VW.aload_n (pc' := 108) d_Planner_applyFilters_107 rfl rfl ?_
                refine VW.gP (ci := 3) (T := T3) (N := 14) (k := 8) (k' := 8) (pc' := 111) d_Planner_applyFilters_108 rfl lk_Planner_34 in3 rfl rfl rfl rfl (by first | exact hQ.k | exact hQ.k2 | exact hQ.k3 | exact hQ.k4 | exact hQ.k5 | exact hQ.k6 | exact hC.k 39 rfl | exact hC.k 40 rfl | exact hC.k 41 rfl | exact hC.k 42 rfl | exact hC.k 43 rfl | exact hC.k 44 rfl | exact hC.k 45 rfl | exact hC.k 46 rfl | exact hC.k 47 rfl | exact hC.k 48 rfl | exact hC.k 49 rfl) (by first | exact hQ.p2 | exact hQ.p3 | exact hQ.p4 | exact hQ.p5 | exact hQ.p6 | exact hC.p 42 rfl | exact hC.p 43 rfl | exact hC.p 44 rfl | exact hC.p 45 rfl | exact hC.p 46 rfl | exact hC.p 47 rfl | exact hC.p 48 rfl | exact hC.p 49 rfl | exact hC.p 50 rfl | exact hC.p 51 rfl | rfl) ?_
                refine VW.iload (pc' := 113) d_Planner_applyFilters_111 rfl rfl ?_
                refine VW.ild (pc' := 114) d_Planner_applyFilters_113 rfl (by first | exact hQ.k | exact hQ.k2 | exact hQ.k3 | exact hQ.k4 | exact hQ.k5 | exact hQ.k6 | exact hC.k 39 rfl | exact hC.k 40 rfl | exact hC.k 41 rfl | exact hC.k 42 rfl | exact hC.k 43 rfl | exact hC.k 44 rfl | exact hC.k 45 rfl | exact hC.k 46 rfl | exact hC.k 47 rfl | exact hC.k 48 rfl | exact hC.k 49 rfl) (by first | omega | (have wZ := r0 c13 c23; omega)) (by first | omega | (have wZ := r0 c13 c23; omega)) (by first | exact hQ.p2 | exact hQ.p3 | exact hQ.p4 | exact hQ.p5 | exact hQ.p6 | exact hC.p 42 rfl | exact hC.p 43 rfl | exact hC.p 44 rfl | exact hC.p 45 rfl | exact hC.p 46 rfl | exact hC.p 47 rfl | exact hC.p 48 rfl | exact hC.p 49 rfl | exact hC.p 50 rfl | exact hC.p 51 rfl | rfl) ?_
                refine VW.goto (pc' := 118) d_Planner_applyFilters_114 rfl ?_
                refine VW.cS (pc' := 121) d_Planner_applyFilters_118 rfl ms_Planner_divided lk_Planner_134 rfl rfl rfl (Nat.le_refl _) (Nat.le_refl _) (by first | exact (goesZ (S 1393 (S 1388 x + S (q + 4) ((x : Int) * 4 + 0))) c13 c23 c86 (fun _ => rfl) (fun z => (z ⟨c60, c69⟩).elim)).1 | exact (goesZ 3 c13 c23 c86 (fun z => (c60 z.1).elim) (fun _ => rfl)).1 | exact (goesZ 3 c13 c23 c86 (fun z => (c69 z.2).elim) (fun _ => rfl)).1) rfl rfl ?_
                refine VW.iast (pc' := 122) d_Planner_applyFilters_121 rfl (by first | exact hQ.k | exact hQ.k2 | exact hQ.k3 | exact hQ.k4 | exact hQ.k5 | exact hQ.k6 | exact hC.k 39 rfl | exact hC.k 40 rfl | exact hC.k 41 rfl | exact hC.k 42 rfl | exact hC.k 43 rfl | exact hC.k 44 rfl | exact hC.k 45 rfl | exact hC.k 46 rfl | exact hC.k 47 rfl | exact hC.k 48 rfl | exact hC.k 49 rfl) (by first | omega | (have wZ := r0 c13 c23; omega)) (by first | omega | (have wZ := r0 c13 c23; omega)) ?_
                refine VW.iinc (pc' := 125) d_Planner_applyFilters_122 rfl rfl rfl (by first | omega | (have wZ := r0 c13 c23; omega)) ?_
                refine VW.goto (pc' := 2) d_Planner_applyFilters_125 rfl ?_
                refine VW.pick [0, 1, 2, 3] ?_
                first | exact skipZ (fun z => z.1 c13) | exact skipZ (fun z => c23 z.2) | exact freeZ c13 c23 c86 | exact (goesZ (S 1393 (S 1388 x + S (q + 4) ((x : Int) * 4 + 0))) c13 c23 c86 (fun _ => rfl) (fun z => (z ⟨c60, c69⟩).elim)).2 | exact (goesZ 3 c13 c23 c86 (fun z => (c60 z.1).elim) (fun _ => rfl)).2 | exact (goesZ 3 c13 c23 c86 (fun z => (c69 z.2).elim) (fun _ => rfl)).2
        · refine VW.goto (pc' := 122) d_Planner_applyFilters_26 rfl ?_
          refine VW.iinc (pc' := 125) d_Planner_applyFilters_122 rfl rfl rfl (by first | omega | (have wZ := r0 c13 c23; omega)) ?_
          refine VW.goto (pc' := 2) d_Planner_applyFilters_125 rfl ?_
          refine VW.pick [0, 1, 2, 3] ?_
          first | exact skipZ (fun z => z.1 c13) | exact skipZ (fun z => c23 z.2) | exact freeZ c13 c23 c86 | exact (goesZ (S 1393 (S 1388 x + S (q + 4) ((x : Int) * 4 + 0))) c13 c23 c86 (fun _ => rfl) (fun z => (z ⟨c60, c69⟩).elim)).2 | exact (goesZ 3 c13 c23 c86 (fun z => (c60 z.1).elim) (fun _ => rfl)).2 | exact (goesZ 3 c13 c23 c86 (fun z => (c69 z.2).elim) (fun _ => rfl)).2
  have l := loopZ n 0 (Nat.zero_add _)
  have l2 : VW m_Planner_applyFilters false (rmv 2 90) (ex K P J (afL I q n) (.inl none)) K P J I 0 0 2 [(0, vR (some 1384)), (1, vR (some q)), (2, vI (n : Int)), (3, vI 0)] [] := l
  clear l loopZ
  refine VW.iconst (pc' := 1) d_Planner_applyFilters_0 rfl (by decide) ?_
  refine VW.istore_n (pc' := 2) d_Planner_applyFilters_1 rfl rfl ?_
  refine VW.pick [0, 1, 2, 3] ?_
  exact l2
/-- a join is taken down -/
def gjO (S : IT) (q : Nat) (x : Int) : IT := up2 (up2 (up2 S 1395 (S 1384 9) (S 1388 x + S (q + 4) (x * 4 + 1))) 1396 (S 1384 9) (S 1388 (S (q + 7) x) + S (q + 4) (x * 4 + 2))) 1384 9 (S 1384 9 + 1)
theorem gjO_o {o : Nat} (h1 : o ≠ 1384) (h2 : o ≠ 1395) (h3 : o ≠ 1396) : gjO S q x o = S o := by
  funext z
  unfold gjO
  rw [up2_o _ _ _ _ h1, up2_o _ _ _ _ h3, up2_o _ _ _ _ h2]
theorem gjO_n : gjO S q x 1384 9 = S 1384 9 + 1 := up2_eq _ _ _ _
theorem gjO_k {z : Int} (h : z ≠ 9) : gjO S q x 1384 z = S 1384 z := by
  unfold gjO
  rw [up2_k _ _ _ _ h, up2_o _ _ _ _ (by decide), up2_o _ _ _ _ (by decide)]
def gjS (S : IT) (q : Nat) (x : Int) : Prop := S 1387 x ≠ 0 ∧ quInn S q x
noncomputable def gjL (S : IT) (q : Nat) : Nat → IT
  | 0 => up2 S 1384 9 0
  | n + 1 => if bI (gjS (gjL S q n) q n) = 1 then gjO (gjL S q n) q n else gjL S q n
theorem gjL_yes {n : Nat} (h : gjS (gjL S q n) q n) : gjL S q (n + 1) = gjO (gjL S q n) q n := if_pos (bI1 h)
theorem gjL_no {n : Nat} (h : ¬ gjS (gjL S q n) q n) : gjL S q (n + 1) = gjL S q n := if_neg (by rw [bI0 h]; decide)
theorem gjL_o {o : Nat} (h1 : o ≠ 1384) (h2 : o ≠ 1395) (h3 : o ≠ 1396) : ∀ n, gjL S q n o = S o := by
  intro n
  induction n with
  | zero => exact funext (fun z => up2_o _ _ _ _ h1)
  | succ n ihZ =>
    by_cases yZ : gjS (gjL S q n) q n
    · rw [gjL_yes yZ, gjO_o h1 h2 h3]; exact ihZ
    · rw [gjL_no yZ]; exact ihZ
theorem gjL_k {z : Int} (h : z ≠ 9) : ∀ n, gjL S q n 1384 z = S 1384 z := by
  intro n
  induction n with
  | zero => exact up2_k _ _ _ _ h
  | succ n ihZ =>
    by_cases yZ : gjS (gjL S q n) q n
    · rw [gjL_yes yZ, gjO_k h]; exact ihZ
    · rw [gjL_no yZ]; exact ihZ
theorem gjL_n : ∀ n : Nat, 0 ≤ gjL S q n 1384 9 ∧ gjL S q n 1384 9 ≤ n := by
  intro n
  induction n with
  | zero => rw [show gjL S q 0 1384 9 = 0 from up2_eq _ _ _ _]; omega
  | succ n ihZ =>
    by_cases yZ : gjS (gjL S q n) q n
    · rw [gjL_yes yZ, gjO_n]; omega
    · rw [gjL_no yZ]; omega
def GjOK (I : IT) (q n : Nat) : Prop := ∀ x : Int, 0 ≤ x → x < n → I 1387 x ≠ 0 → quInn I q x → (0 ≤ I 1388 x ∧ I 1388 x ≤ 1000) ∧ (0 ≤ I (q + 4) (x * 4 + 1) ∧ I (q + 4) (x * 4 + 1) ≤ 1000) ∧ (0 ≤ I (q + 4) (x * 4 + 2) ∧ I (q + 4) (x * 4 + 2) ≤ 1000) ∧ (0 ≤ I (q + 7) x ∧ I (q + 7) x < 12) ∧ 0 ≤ I 1388 (I (q + 7) x) ∧ I 1388 (I (q + 7) x) ≤ 1000
theorem sp_Planner_gatherJoins {top : Nat} (hC : ClW K P) (hQ : QuW K P q) (hq : 10000 ≤ q) (h12 : top < 12) (hr : GjOK I q (top + 1)) : Sp m_Planner_gatherJoins false (rmv 2 90) (ex K P J (gjL I q (top + 1)) (.inl none)) K P J I [vR (some 1384), vR (some q), vI (top : Int)] := by
  refine Sp.ofV (by decide) (Or.inr rfl) rfl ?_
  have loopZ : ∀ mZ x : Nat, x + mZ = top + 1 → VW m_Planner_gatherJoins false (rmv 2 90) (ex K P J (gjL I q (top + 1)) (.inl none)) K P J (gjL I q x) 0 0 7 [(0, vR (some 1384)), (1, vR (some q)), (2, vI (top : Int)), (3, vI (x : Int))] [] := by
    intro mZ
    induction mZ with
    | zero =>
      intro x hx
      have ex0 : x = top + 1 := by omega
      subst ex0
      refine VW.iload_n (pc' := 8) d_Planner_gatherJoins_7 rfl rfl ?_
      refine VW.iload_n (pc' := 9) d_Planner_gatherJoins_8 rfl rfl ?_
      refine VW.icmp_gt (tgt := 94) (pc' := 12) d_Planner_gatherJoins_9 rfl rfl (fun c9 => ?_) (fun c9 => ?_)
      case refine_2 => exact absurd c9 (by omega)
      exact VW.vret d_Planner_gatherJoins_94 rfl (Nat.zero_le _) (Nat.zero_le _) ex_rf
    | succ mZ ihZ =>
      intro x hx
      have i1Z := ihZ (x + 1) (by omega)
      rw [show ((x + 1 : Nat) : Int) = (x : Int) + 1 by omega] at i1Z
      have gn := gjL_n (S := I) (q := q) x
      have o3Z : gjL I q x (q + 3) = I (q + 3) := gjL_o (by omega) (by omega) (by omega) x
      have o4Z : gjL I q x (q + 4) = I (q + 4) := gjL_o (by omega) (by omega) (by omega) x
      have o7 : gjL I q x (q + 7) = I (q + 7) := gjL_o (by omega) (by omega) (by omega) x
      have p7Z : gjL I q x 1387 = I 1387 := gjL_o (by decide) (by decide) (by decide) x
      have p8Z : gjL I q x 1388 = I 1388 := gjL_o (by decide) (by decide) (by decide) x
      have ho := hr x (by omega) (by omega)
      unfold quInn at ho
      rw [← o3Z, ← o4Z, ← o7, ← p7Z, ← p8Z] at ho
      have noZ : ¬ gjS (gjL I q x) q x → gjL I q (x + 1) = gjL I q x := fun y => gjL_no y
      have yesZ : gjS (gjL I q x) q x → gjL I q (x + 1) = gjO (gjL I q x) q x := fun y => gjL_yes y
      have x12 : 0 ≤ (x : Int) ∧ (x : Int) < 12 := by omega
      clear ihZ o3Z o4Z o7 p7Z p8Z
      generalize gjL I q (x + 1) = T at *
      generalize gjL I q x = S at *
      have skipZ : ¬ gjS S q x → VW m_Planner_gatherJoins false (rmv 2 90) (ex K P J (gjL I q (top + 1)) (.inl none)) K P J S 0 0 7 [(0, vR (some 1384)), (1, vR (some q)), (2, vI (top : Int)), (3, vI ((x : Int) + 1))] [] := fun y => by
        have := i1Z
        rw [noZ y] at this
        exact this
      have goesZ : S 1387 x ≠ 0 → quInn S q x → VW m_Planner_gatherJoins false (rmv 2 90) (ex K P J (gjL I q (top + 1)) (.inl none)) K P J (gjO S q x) 0 0 7 [(0, vR (some 1384)), (1, vR (some q)), (2, vI (top : Int)), (3, vI ((x : Int) + 1))] [] := fun y1 y2 => by
        have := i1Z
        rw [yesZ ⟨y1, y2⟩] at this
        exact this
      have r0 : S 1387 x ≠ 0 → quInn S q x → (0 ≤ S 1388 x ∧ S 1388 x ≤ 1000) ∧ (0 ≤ S (q + 4) ((x : Int) * 4 + 1) ∧ S (q + 4) ((x : Int) * 4 + 1) ≤ 1000) ∧ (0 ≤ S (q + 4) ((x : Int) * 4 + 2) ∧ S (q + 4) ((x : Int) * 4 + 2) ≤ 1000) ∧ (0 ≤ S (q + 7) x ∧ S (q + 7) x < 12) ∧ 0 ≤ S 1388 (S (q + 7) x) ∧ S 1388 (S (q + 7) x) ≤ 1000 := ho
      have inn := sp_Query_isInnerJoin (K := K) (P := P) (J := J) (I := S) (x := (x : Int)) hQ x12
      have p1Z := sp_Query_parameter (K := K) (P := P) (J := J) (I := S) (x := (x : Int)) (n := 1) hQ x12 ⟨by decide, by decide⟩
      have u1Z : ∀ o z, o ≠ 1395 → up2 S 1395 (S 1384 9) (S 1388 x + S (q + 4) ((x : Int) * 4 + 1)) o z = S o z := fun o z y => up2_o _ _ _ _ y
      have p2Z := sp_Query_parameter (K := K) (P := P) (J := J) (I := up2 S 1395 (S 1384 9) (S 1388 x + S (q + 4) ((x : Int) * 4 + 1))) (x := (x : Int)) (n := 2) hQ x12 ⟨by decide, by decide⟩
      rw [u1Z (q + 4) _ (by omega)] at p2Z
      have a1Z := u1Z 1384 9 (by decide)
      have a2 := fun z => u1Z 1388 z (by decide)
      have a3 := u1Z (q + 7) x (by omega)
      have a4 : up2 (up2 S 1395 (S 1384 9) (S 1388 x + S (q + 4) ((x : Int) * 4 + 1))) 1396 (S 1384 9) (S 1388 (S (q + 7) x) + S (q + 4) ((x : Int) * 4 + 2)) 1384 9 = S 1384 9 := (up2_o _ _ _ _ (by decide)).trans a1Z
      clear i1Z yesZ noZ ho u1Z
      refine VW.iload_n (pc' := 8) d_Planner_gatherJoins_7 rfl rfl ?_
      refine VW.iload_n (pc' := 9) d_Planner_gatherJoins_8 rfl rfl ?_
      refine VW.icmp_gt (tgt := 94) (pc' := 12) d_Planner_gatherJoins_9 rfl rfl (fun c9 => ?_) (fun c9 => ?_)
      case refine_1 => exact absurd c9 (by omega)
      refine VW.aload_n (pc' := 13) d_Planner_gatherJoins_12 rfl rfl ?_
      refine VW.gP (ci := 3) (T := T3) (N := 14) (k := 2) (k' := 2) (pc' := 16) d_Planner_gatherJoins_13 rfl lk_Planner_18 in3 rfl rfl rfl rfl (by first | exact hQ.k | exact hQ.k2 | exact hQ.k3 | exact hQ.k4 | exact hQ.k5 | exact hQ.k6 | exact hC.k 39 rfl | exact hC.k 40 rfl | exact hC.k 41 rfl | exact hC.k 42 rfl | exact hC.k 43 rfl | exact hC.k 44 rfl | exact hC.k 45 rfl | exact hC.k 46 rfl | exact hC.k 47 rfl | exact hC.k 48 rfl | exact hC.k 49 rfl) (by first | exact hQ.p2 | exact hQ.p3 | exact hQ.p4 | exact hQ.p5 | exact hQ.p6 | exact hC.p 42 rfl | exact hC.p 43 rfl | exact hC.p 44 rfl | exact hC.p 45 rfl | exact hC.p 46 rfl | exact hC.p 47 rfl | exact hC.p 48 rfl | exact hC.p 49 rfl | exact hC.p 50 rfl | exact hC.p 51 rfl | exact a1Z | exact a2 _ | exact a3 | exact a4 | rfl) ?_
      refine VW.iload_n (pc' := 17) d_Planner_gatherJoins_16 rfl rfl ?_
      refine VW.zld (pc' := 18) d_Planner_gatherJoins_17 rfl (by first | exact hQ.k | exact hQ.k2 | exact hQ.k3 | exact hQ.k4 | exact hQ.k5 | exact hQ.k6 | exact hC.k 39 rfl | exact hC.k 40 rfl | exact hC.k 41 rfl | exact hC.k 42 rfl | exact hC.k 43 rfl | exact hC.k 44 rfl | exact hC.k 45 rfl | exact hC.k 46 rfl | exact hC.k 47 rfl | exact hC.k 48 rfl | exact hC.k 49 rfl) (by first | omega | (have wZ := r0 c18 e26Z; omega)) (by first | omega | (have wZ := r0 c18 e26Z; omega)) (by first | exact hQ.p2 | exact hQ.p3 | exact hQ.p4 | exact hQ.p5 | exact hQ.p6 | exact hC.p 42 rfl | exact hC.p 43 rfl | exact hC.p 44 rfl | exact hC.p 45 rfl | exact hC.p 46 rfl | exact hC.p 47 rfl | exact hC.p 48 rfl | exact hC.p 49 rfl | exact hC.p 50 rfl | exact hC.p 51 rfl | exact a1Z | exact a2 _ | exact a3 | exact a4 | rfl) ?_
      refine VW.if_eq (tgt := 88) (pc' := 21) d_Planner_gatherJoins_18 rfl rfl (fun c18 => ?_) (fun c18 => ?_)
      · try have e18Z := bIe c18
        refine VW.iinc (pc' := 91) d_Planner_gatherJoins_88 rfl rfl rfl (by first | omega | (have wZ := r0 c18 e26Z; omega)) ?_
        refine VW.goto (pc' := 7) d_Planner_gatherJoins_91 rfl ?_
        refine VW.pick [0, 1, 2, 3] ?_
        first | exact skipZ (fun z => z.1 c18) | exact skipZ (fun z => e26Z z.2) | exact goesZ c18 e26Z
      · try have e18Z := bIn c18
        refine VW.aload_n (pc' := 22) d_Planner_gatherJoins_21 rfl rfl ?_
        refine VW.iload_n (pc' := 23) d_Planner_gatherJoins_22 rfl rfl ?_
        refine VW.cV (ci := 4) (T := T4) (N := 13) (pc' := 26) d_Planner_gatherJoins_23 rfl mv_Query_isInnerJoin lk_Planner_104 rfl (by first | exact hQ.k | exact hQ.k2 | exact hQ.k3 | exact hQ.k4 | exact hQ.k5 | exact hQ.k6 | exact hC.k 39 rfl | exact hC.k 40 rfl | exact hC.k 41 rfl | exact hC.k 42 rfl | exact hC.k 43 rfl | exact hC.k 44 rfl | exact hC.k 45 rfl | exact hC.k 46 rfl | exact hC.k 47 rfl | exact hC.k 48 rfl | exact hC.k 49 rfl) rfl rfl rfl (Nat.le_refl _) (Nat.le_refl _) (inn) rfl rfl ?_
        refine VW.if_eq (tgt := 88) (pc' := 29) d_Planner_gatherJoins_26 rfl rfl (fun c26 => ?_) (fun c26 => ?_)
        · try have e26Z := bIe c26
          refine VW.iinc (pc' := 91) d_Planner_gatherJoins_88 rfl rfl rfl (by first | omega | (have wZ := r0 c18 e26Z; omega)) ?_
          refine VW.goto (pc' := 7) d_Planner_gatherJoins_91 rfl ?_
          refine VW.pick [0, 1, 2, 3] ?_
          first | exact skipZ (fun z => z.1 c18) | exact skipZ (fun z => e26Z z.2) | exact goesZ c18 e26Z
        · try have e26Z := bIn c26
          refine VW.aload_n (pc' := 30) d_Planner_gatherJoins_29 rfl rfl ?_
          refine VW.gP (ci := 3) (T := T3) (N := 14) (k := 10) (k' := 10) (pc' := 33) d_Planner_gatherJoins_30 rfl lk_Planner_37 in3 rfl rfl rfl rfl (by first | exact hQ.k | exact hQ.k2 | exact hQ.k3 | exact hQ.k4 | exact hQ.k5 | exact hQ.k6 | exact hC.k 39 rfl | exact hC.k 40 rfl | exact hC.k 41 rfl | exact hC.k 42 rfl | exact hC.k 43 rfl | exact hC.k 44 rfl | exact hC.k 45 rfl | exact hC.k 46 rfl | exact hC.k 47 rfl | exact hC.k 48 rfl | exact hC.k 49 rfl) (by first | exact hQ.p2 | exact hQ.p3 | exact hQ.p4 | exact hQ.p5 | exact hQ.p6 | exact hC.p 42 rfl | exact hC.p 43 rfl | exact hC.p 44 rfl | exact hC.p 45 rfl | exact hC.p 46 rfl | exact hC.p 47 rfl | exact hC.p 48 rfl | exact hC.p 49 rfl | exact hC.p 50 rfl | exact hC.p 51 rfl | exact a1Z | exact a2 _ | exact a3 | exact a4 | rfl) ?_
          refine VW.aload_n (pc' := 34) d_Planner_gatherJoins_33 rfl rfl ?_
          refine VW.gI (ci := 3) (T := T3) (N := 14) (k := 9) (k' := 9) (pc' := 37) d_Planner_gatherJoins_34 rfl lk_Planner_142 in3 rfl rfl rfl rfl (by first | exact hQ.k | exact hQ.k2 | exact hQ.k3 | exact hQ.k4 | exact hQ.k5 | exact hQ.k6 | exact hC.k 39 rfl | exact hC.k 40 rfl | exact hC.k 41 rfl | exact hC.k 42 rfl | exact hC.k 43 rfl | exact hC.k 44 rfl | exact hC.k 45 rfl | exact hC.k 46 rfl | exact hC.k 47 rfl | exact hC.k 48 rfl | exact hC.k 49 rfl) (by first | exact hQ.p2 | exact hQ.p3 | exact hQ.p4 | exact hQ.p5 | exact hQ.p6 | exact hC.p 42 rfl | exact hC.p 43 rfl | exact hC.p 44 rfl | exact hC.p 45 rfl | exact hC.p 46 rfl | exact hC.p 47 rfl | exact hC.p 48 rfl | exact hC.p 49 rfl | exact hC.p 50 rfl | exact hC.p 51 rfl | exact a1Z | exact a2 _ | exact a3 | exact a4 | rfl) ?_
          refine VW.aload_n (pc' := 38) d_Planner_gatherJoins_37 rfl rfl ?_
          refine VW.gP (ci := 3) (T := T3) (N := 14) (k := 3) (k' := 3) (pc' := 41) d_Planner_gatherJoins_38 rfl lk_Planner_22 in3 rfl rfl rfl rfl (by first | exact hQ.k | exact hQ.k2 | exact hQ.k3 | exact hQ.k4 | exact hQ.k5 | exact hQ.k6 | exact hC.k 39 rfl | exact hC.k 40 rfl | exact hC.k 41 rfl | exact hC.k 42 rfl | exact hC.k 43 rfl | exact hC.k 44 rfl | exact hC.k 45 rfl | exact hC.k 46 rfl | exact hC.k 47 rfl | exact hC.k 48 rfl | exact hC.k 49 rfl) (by first | exact hQ.p2 | exact hQ.p3 | exact hQ.p4 | exact hQ.p5 | exact hQ.p6 | exact hC.p 42 rfl | exact hC.p 43 rfl | exact hC.p 44 rfl | exact hC.p 45 rfl | exact hC.p 46 rfl | exact hC.p 47 rfl | exact hC.p 48 rfl | exact hC.p 49 rfl | exact hC.p 50 rfl | exact hC.p 51 rfl | exact a1Z | exact a2 _ | exact a3 | exact a4 | rfl) ?_
          refine VW.iload_n (pc' := 42) d_Planner_gatherJoins_41 rfl rfl ?_
          refine VW.ild (pc' := 43) d_Planner_gatherJoins_42 rfl (by first | exact hQ.k | exact hQ.k2 | exact hQ.k3 | exact hQ.k4 | exact hQ.k5 | exact hQ.k6 | exact hC.k 39 rfl | exact hC.k 40 rfl | exact hC.k 41 rfl | exact hC.k 42 rfl | exact hC.k 43 rfl | exact hC.k 44 rfl | exact hC.k 45 rfl | exact hC.k 46 rfl | exact hC.k 47 rfl | exact hC.k 48 rfl | exact hC.k 49 rfl) (by first | omega | (have wZ := r0 c18 e26Z; omega)) (by first | omega | (have wZ := r0 c18 e26Z; omega)) (by first | exact hQ.p2 | exact hQ.p3 | exact hQ.p4 | exact hQ.p5 | exact hQ.p6 | exact hC.p 42 rfl | exact hC.p 43 rfl | exact hC.p 44 rfl | exact hC.p 45 rfl | exact hC.p 46 rfl | exact hC.p 47 rfl | exact hC.p 48 rfl | exact hC.p 49 rfl | exact hC.p 50 rfl | exact hC.p 51 rfl | exact a1Z | exact a2 _ | exact a3 | exact a4 | rfl) ?_
          refine VW.aload_n (pc' := 44) d_Planner_gatherJoins_43 rfl rfl ?_
          refine VW.iload_n (pc' := 45) d_Planner_gatherJoins_44 rfl rfl ?_
          refine VW.iconst (pc' := 46) d_Planner_gatherJoins_45 rfl (by decide) ?_
          refine VW.cV (ci := 4) (T := T4) (N := 13) (pc' := 49) d_Planner_gatherJoins_46 rfl mv_Query_parameter lk_Planner_130 rfl (by first | exact hQ.k | exact hQ.k2 | exact hQ.k3 | exact hQ.k4 | exact hQ.k5 | exact hQ.k6 | exact hC.k 39 rfl | exact hC.k 40 rfl | exact hC.k 41 rfl | exact hC.k 42 rfl | exact hC.k 43 rfl | exact hC.k 44 rfl | exact hC.k 45 rfl | exact hC.k 46 rfl | exact hC.k 47 rfl | exact hC.k 48 rfl | exact hC.k 49 rfl) rfl rfl rfl (Nat.le_refl _) (Nat.le_refl _) (p1Z) rfl rfl ?_
          refine VW.iadd (pc' := 50) d_Planner_gatherJoins_49 rfl (by first | omega | (have wZ := r0 c18 e26Z; omega)) ?_
          refine VW.iast (pc' := 51) d_Planner_gatherJoins_50 rfl (by first | exact hQ.k | exact hQ.k2 | exact hQ.k3 | exact hQ.k4 | exact hQ.k5 | exact hQ.k6 | exact hC.k 39 rfl | exact hC.k 40 rfl | exact hC.k 41 rfl | exact hC.k 42 rfl | exact hC.k 43 rfl | exact hC.k 44 rfl | exact hC.k 45 rfl | exact hC.k 46 rfl | exact hC.k 47 rfl | exact hC.k 48 rfl | exact hC.k 49 rfl) (by first | omega | (have wZ := r0 c18 e26Z; omega)) (by first | omega | (have wZ := r0 c18 e26Z; omega)) ?_
          refine VW.aload_n (pc' := 52) d_Planner_gatherJoins_51 rfl rfl ?_
          refine VW.gP (ci := 3) (T := T3) (N := 14) (k := 11) (k' := 11) (pc' := 55) d_Planner_gatherJoins_52 rfl lk_Planner_40 in3 rfl rfl rfl rfl (by first | exact hQ.k | exact hQ.k2 | exact hQ.k3 | exact hQ.k4 | exact hQ.k5 | exact hQ.k6 | exact hC.k 39 rfl | exact hC.k 40 rfl | exact hC.k 41 rfl | exact hC.k 42 rfl | exact hC.k 43 rfl | exact hC.k 44 rfl | exact hC.k 45 rfl | exact hC.k 46 rfl | exact hC.k 47 rfl | exact hC.k 48 rfl | exact hC.k 49 rfl) (by first | exact hQ.p2 | exact hQ.p3 | exact hQ.p4 | exact hQ.p5 | exact hQ.p6 | exact hC.p 42 rfl | exact hC.p 43 rfl | exact hC.p 44 rfl | exact hC.p 45 rfl | exact hC.p 46 rfl | exact hC.p 47 rfl | exact hC.p 48 rfl | exact hC.p 49 rfl | exact hC.p 50 rfl | exact hC.p 51 rfl | exact a1Z | exact a2 _ | exact a3 | exact a4 | rfl) ?_
          refine VW.aload_n (pc' := 56) d_Planner_gatherJoins_55 rfl rfl ?_
          refine VW.gI (ci := 3) (T := T3) (N := 14) (k := 9) (k' := 9) (pc' := 59) d_Planner_gatherJoins_56 rfl lk_Planner_142 in3 rfl rfl rfl rfl (by first | exact hQ.k | exact hQ.k2 | exact hQ.k3 | exact hQ.k4 | exact hQ.k5 | exact hQ.k6 | exact hC.k 39 rfl | exact hC.k 40 rfl | exact hC.k 41 rfl | exact hC.k 42 rfl | exact hC.k 43 rfl | exact hC.k 44 rfl | exact hC.k 45 rfl | exact hC.k 46 rfl | exact hC.k 47 rfl | exact hC.k 48 rfl | exact hC.k 49 rfl) (by first | exact hQ.p2 | exact hQ.p3 | exact hQ.p4 | exact hQ.p5 | exact hQ.p6 | exact hC.p 42 rfl | exact hC.p 43 rfl | exact hC.p 44 rfl | exact hC.p 45 rfl | exact hC.p 46 rfl | exact hC.p 47 rfl | exact hC.p 48 rfl | exact hC.p 49 rfl | exact hC.p 50 rfl | exact hC.p 51 rfl | exact a1Z | exact a2 _ | exact a3 | exact a4 | rfl) ?_
          refine VW.aload_n (pc' := 60) d_Planner_gatherJoins_59 rfl rfl ?_
          refine VW.gP (ci := 3) (T := T3) (N := 14) (k := 3) (k' := 3) (pc' := 63) d_Planner_gatherJoins_60 rfl lk_Planner_22 in3 rfl rfl rfl rfl (by first | exact hQ.k | exact hQ.k2 | exact hQ.k3 | exact hQ.k4 | exact hQ.k5 | exact hQ.k6 | exact hC.k 39 rfl | exact hC.k 40 rfl | exact hC.k 41 rfl | exact hC.k 42 rfl | exact hC.k 43 rfl | exact hC.k 44 rfl | exact hC.k 45 rfl | exact hC.k 46 rfl | exact hC.k 47 rfl | exact hC.k 48 rfl | exact hC.k 49 rfl) (by first | exact hQ.p2 | exact hQ.p3 | exact hQ.p4 | exact hQ.p5 | exact hQ.p6 | exact hC.p 42 rfl | exact hC.p 43 rfl | exact hC.p 44 rfl | exact hC.p 45 rfl | exact hC.p 46 rfl | exact hC.p 47 rfl | exact hC.p 48 rfl | exact hC.p 49 rfl | exact hC.p 50 rfl | exact hC.p 51 rfl | exact a1Z | exact a2 _ | exact a3 | exact a4 | rfl) ?_
          refine VW.aload_n (pc' := 64) d_Planner_gatherJoins_63 rfl rfl ?_
          refine VW.gP (ci := 4) (T := T4) (N := 13) (k := 6) (k' := 6) (pc' := 67) d_Planner_gatherJoins_64 rfl lk_Planner_123 in4 rfl rfl rfl rfl (by first | exact hQ.k | exact hQ.k2 | exact hQ.k3 | exact hQ.k4 | exact hQ.k5 | exact hQ.k6 | exact hC.k 39 rfl | exact hC.k 40 rfl | exact hC.k 41 rfl | exact hC.k 42 rfl | exact hC.k 43 rfl | exact hC.k 44 rfl | exact hC.k 45 rfl | exact hC.k 46 rfl | exact hC.k 47 rfl | exact hC.k 48 rfl | exact hC.k 49 rfl) (by first | exact hQ.p2 | exact hQ.p3 | exact hQ.p4 | exact hQ.p5 | exact hQ.p6 | exact hC.p 42 rfl | exact hC.p 43 rfl | exact hC.p 44 rfl | exact hC.p 45 rfl | exact hC.p 46 rfl | exact hC.p 47 rfl | exact hC.p 48 rfl | exact hC.p 49 rfl | exact hC.p 50 rfl | exact hC.p 51 rfl | exact a1Z | exact a2 _ | exact a3 | exact a4 | rfl) ?_
          refine VW.iload_n (pc' := 68) d_Planner_gatherJoins_67 rfl rfl ?_
          refine VW.ild (pc' := 69) d_Planner_gatherJoins_68 rfl (by first | exact hQ.k | exact hQ.k2 | exact hQ.k3 | exact hQ.k4 | exact hQ.k5 | exact hQ.k6 | exact hC.k 39 rfl | exact hC.k 40 rfl | exact hC.k 41 rfl | exact hC.k 42 rfl | exact hC.k 43 rfl | exact hC.k 44 rfl | exact hC.k 45 rfl | exact hC.k 46 rfl | exact hC.k 47 rfl | exact hC.k 48 rfl | exact hC.k 49 rfl) (by first | omega | (have wZ := r0 c18 e26Z; omega)) (by first | omega | (have wZ := r0 c18 e26Z; omega)) (by first | exact hQ.p2 | exact hQ.p3 | exact hQ.p4 | exact hQ.p5 | exact hQ.p6 | exact hC.p 42 rfl | exact hC.p 43 rfl | exact hC.p 44 rfl | exact hC.p 45 rfl | exact hC.p 46 rfl | exact hC.p 47 rfl | exact hC.p 48 rfl | exact hC.p 49 rfl | exact hC.p 50 rfl | exact hC.p 51 rfl | exact a1Z | exact a2 _ | exact a3 | exact a4 | rfl) ?_
          refine VW.ild (pc' := 70) d_Planner_gatherJoins_69 rfl (by first | exact hQ.k | exact hQ.k2 | exact hQ.k3 | exact hQ.k4 | exact hQ.k5 | exact hQ.k6 | exact hC.k 39 rfl | exact hC.k 40 rfl | exact hC.k 41 rfl | exact hC.k 42 rfl | exact hC.k 43 rfl | exact hC.k 44 rfl | exact hC.k 45 rfl | exact hC.k 46 rfl | exact hC.k 47 rfl | exact hC.k 48 rfl | exact hC.k 49 rfl) (by first | omega | (have wZ := r0 c18 e26Z; omega)) (by first | omega | (have wZ := r0 c18 e26Z; omega)) (by first | exact hQ.p2 | exact hQ.p3 | exact hQ.p4 | exact hQ.p5 | exact hQ.p6 | exact hC.p 42 rfl | exact hC.p 43 rfl | exact hC.p 44 rfl | exact hC.p 45 rfl | exact hC.p 46 rfl | exact hC.p 47 rfl | exact hC.p 48 rfl | exact hC.p 49 rfl | exact hC.p 50 rfl | exact hC.p 51 rfl | exact a1Z | exact a2 _ | exact a3 | exact a4 | rfl) ?_
          refine VW.aload_n (pc' := 71) d_Planner_gatherJoins_70 rfl rfl ?_
          refine VW.iload_n (pc' := 72) d_Planner_gatherJoins_71 rfl rfl ?_
          refine VW.iconst (pc' := 73) d_Planner_gatherJoins_72 rfl (by decide) ?_
          refine VW.cV (ci := 4) (T := T4) (N := 13) (pc' := 76) d_Planner_gatherJoins_73 rfl mv_Query_parameter lk_Planner_130 rfl (by first | exact hQ.k | exact hQ.k2 | exact hQ.k3 | exact hQ.k4 | exact hQ.k5 | exact hQ.k6 | exact hC.k 39 rfl | exact hC.k 40 rfl | exact hC.k 41 rfl | exact hC.k 42 rfl | exact hC.k 43 rfl | exact hC.k 44 rfl | exact hC.k 45 rfl | exact hC.k 46 rfl | exact hC.k 47 rfl | exact hC.k 48 rfl | exact hC.k 49 rfl) rfl rfl rfl (Nat.le_refl _) (Nat.le_refl _) (p2Z) rfl rfl ?_
          refine VW.iadd (pc' := 77) d_Planner_gatherJoins_76 rfl (by first | omega | (have wZ := r0 c18 e26Z; omega)) ?_
          refine VW.iast (pc' := 78) d_Planner_gatherJoins_77 rfl (by first | exact hQ.k | exact hQ.k2 | exact hQ.k3 | exact hQ.k4 | exact hQ.k5 | exact hQ.k6 | exact hC.k 39 rfl | exact hC.k 40 rfl | exact hC.k 41 rfl | exact hC.k 42 rfl | exact hC.k 43 rfl | exact hC.k 44 rfl | exact hC.k 45 rfl | exact hC.k 46 rfl | exact hC.k 47 rfl | exact hC.k 48 rfl | exact hC.k 49 rfl) (by first | omega | (have wZ := r0 c18 e26Z; omega)) (by first | omega | (have wZ := r0 c18 e26Z; omega)) ?_
          refine VW.aload_n (pc' := 79) d_Planner_gatherJoins_78 rfl rfl ?_
          refine VW.dup (pc' := 80) d_Planner_gatherJoins_79 rfl rfl ?_
          refine VW.gI (ci := 3) (T := T3) (N := 14) (k := 9) (k' := 9) (pc' := 83) d_Planner_gatherJoins_80 rfl lk_Planner_142 in3 rfl rfl rfl rfl (by first | exact hQ.k | exact hQ.k2 | exact hQ.k3 | exact hQ.k4 | exact hQ.k5 | exact hQ.k6 | exact hC.k 39 rfl | exact hC.k 40 rfl | exact hC.k 41 rfl | exact hC.k 42 rfl | exact hC.k 43 rfl | exact hC.k 44 rfl | exact hC.k 45 rfl | exact hC.k 46 rfl | exact hC.k 47 rfl | exact hC.k 48 rfl | exact hC.k 49 rfl) (by first | exact hQ.p2 | exact hQ.p3 | exact hQ.p4 | exact hQ.p5 | exact hQ.p6 | exact hC.p 42 rfl | exact hC.p 43 rfl | exact hC.p 44 rfl | exact hC.p 45 rfl | exact hC.p 46 rfl | exact hC.p 47 rfl | exact hC.p 48 rfl | exact hC.p 49 rfl | exact hC.p 50 rfl | exact hC.p 51 rfl | exact a1Z | exact a2 _ | exact a3 | exact a4 | rfl) ?_
          refine VW.iconst (pc' := 84) d_Planner_gatherJoins_83 rfl (by decide) ?_
          refine VW.iadd (pc' := 85) d_Planner_gatherJoins_84 rfl (by first | omega | (have wZ := r0 c18 e26Z; omega)) ?_
          refine VW.pI (ci := 3) (T := T3) (N := 14) (k := 9) (k' := 9) (ty := ty3) (pc' := 88) d_Planner_gatherJoins_85 rfl lk_Planner_142 in3 tk3 nm3 rfl rfl rfl rfl rfl rfl (by first | exact hQ.k | exact hQ.k2 | exact hQ.k3 | exact hQ.k4 | exact hQ.k5 | exact hQ.k6 | exact hC.k 39 rfl | exact hC.k 40 rfl | exact hC.k 41 rfl | exact hC.k 42 rfl | exact hC.k 43 rfl | exact hC.k 44 rfl | exact hC.k 45 rfl | exact hC.k 46 rfl | exact hC.k 47 rfl | exact hC.k 48 rfl | exact hC.k 49 rfl) ?_
          refine VW.iinc (pc' := 91) d_Planner_gatherJoins_88 rfl rfl rfl (by first | omega | (have wZ := r0 c18 e26Z; omega)) ?_
          refine VW.goto (pc' := 7) d_Planner_gatherJoins_91 rfl ?_
          refine VW.pick [0, 1, 2, 3] ?_
          first | exact skipZ (fun z => z.1 c18) | exact skipZ (fun z => e26Z z.2) | exact goesZ c18 e26Z
  have l := loopZ (top + 1) 0 (Nat.zero_add _)
  have l2 : VW m_Planner_gatherJoins false (rmv 2 90) (ex K P J (gjL I q (top + 1)) (.inl none)) K P J (up2 I 1384 9 0) 0 0 7 [(0, vR (some 1384)), (1, vR (some q)), (2, vI (top : Int)), (3, vI 0)] [] := l
  clear l loopZ
  refine VW.aload_n (pc' := 1) d_Planner_gatherJoins_0 rfl rfl ?_
  refine VW.iconst (pc' := 2) d_Planner_gatherJoins_1 rfl (by decide) ?_
  refine VW.pI (ci := 3) (T := T3) (N := 14) (k := 9) (k' := 9) (ty := ty3) (pc' := 5) d_Planner_gatherJoins_2 rfl lk_Planner_142 in3 tk3 nm3 rfl rfl rfl rfl rfl rfl (by first | exact hQ.k | exact hQ.k2 | exact hQ.k3 | exact hQ.k4 | exact hQ.k5 | exact hQ.k6 | exact hC.k 39 rfl | exact hC.k 40 rfl | exact hC.k 41 rfl | exact hC.k 42 rfl | exact hC.k 43 rfl | exact hC.k 44 rfl | exact hC.k 45 rfl | exact hC.k 46 rfl | exact hC.k 47 rfl | exact hC.k 48 rfl | exact hC.k 49 rfl) ?_
  refine VW.iconst (pc' := 6) d_Planner_gatherJoins_5 rfl (by decide) ?_
  refine VW.istore_n (pc' := 7) d_Planner_gatherJoins_6 rfl rfl ?_
  refine VW.pick [0, 1, 2, 3] ?_
  exact l2
end
