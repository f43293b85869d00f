section
variable {K : KT} {P : PT} {J I : IT}
/-- an operator that takes one result -/
noncomputable def chL (op A B C nt : Int) (w : Nat) (L : List (List Int)) : Nat × List (List Int) := if op ≤ 3 then (w, flt (stayP op A B C nt) L) else if op = 5 then (wk A w, keepL A w L) else (2, groupL B A C L)
def chOK (op A B C : Int) (w : Nat) (L : List (List Int)) : Prop := (op = 1 ∨ op = 2 ∨ op = 3 ∨ op = 5 ∨ op = 6) ∧ (op ≤ 3 → opIn op A B C w) ∧ (op = 5 → 0 ≤ A ∧ A < 2147483648) ∧ (op = 6 → (A = -1 ∨ (0 ≤ A ∧ A < w)) ∧ (0 ≤ C ∧ C < w) ∧ ∀ k : Nat, k < L.length → ∀ z ∈ groupL B A C (L.take (k + 1)), inR (nth z 1))
def ChR (I T : IT) (v eo co : Nat) (w : Nat) (M : List (List Int)) (F : Prop) : Prop := RelR T eo co w M ∧ (∀ q, q ≠ eo → q ≠ co → q ≠ v → T q = I q) ∧ (∀ q, q ≠ 6 → T v q = I v q) ∧ T v 6 = bI (I v 6 = 1 ∨ F)
theorem stayP_nt {op A B C nt nt' : Int} (h : (nt' = 0) = (nt = 0)) : stayP op A B C nt' = stayP op A B C nt := by
  funext r
  unfold stayP
  simp only [h]
theorem ChR.of2 {T : IT} {v eo co w : Nat} {M : List (List Int)} {F : Prop} (hv : v ≠ eo ∧ v ≠ co) (h : RelR T eo co w M ∧ ∀ q, q ≠ eo → q ≠ co → T q = I q) (hF : ¬ F) (h6 : I v 6 = 0 ∨ I v 6 = 1) : ChR I T v eo co w M F := by
  have e := h.2 v hv.1 hv.2
  refine ⟨h.1, fun q q1 q2 _ => h.2 q q1 q2, fun q _ => by rw [e], ?_⟩
  rw [e]
  rcases h6 with z | z
  · rw [z]; exact (bI0 (fun y => y.elim (fun y => by omega) hF)).symm
  · rw [z]; exact (bI1 (Or.inl rfl)).symm
/-- what a filter's heap is -/
theorem ChR.of1 {T : IT} {v eo co w : Nat} {p : List Int → Prop} {op A B : Int} {L : List (List Int)} (h : RelR T eo co w (flt p L) ∧ (∀ o, o ≠ eo → o ≠ co → o ≠ v → T o = I o) ∧ (∀ q, q ≠ 6 → T v q = I v q) ∧ T v 6 = bI (I v 6 = 1 ∨ ∃ r ∈ L, stayF op A B r)) : ChR I T v eo co w (flt p L) (∃ r ∈ L, stayF op A B r) := h
theorem sp_Evaluator_changeInto {v eo co ei ci w qn : Nat} {x op A B C nt : Int} {L : List (List Int)} (hv : K v = some (1, 0)) (hA : ReA K P eo co ei ci) (hR : RelR I ei ci w L) (h0 : RelR I eo co (chL op A B C nt w L).1 []) (hw : w ≤ 10) (hL : L.length ≤ 512) (hf : I v 6 = 0 ∨ I v 6 = 1) (hQ : QuW K P qn) (hx : 0 ≤ x ∧ x < 12) (eO : I (qn + 3) x = op) (eA : I (qn + 4) (x * 4 + 0) = A) (eB : I (qn + 4) (x * 4 + 1) = B) (eC : I (qn + 4) (x * 4 + 2) = C) (eN : I (qn + 4) (x * 4 + 3) = nt) (hc : chOK op A B C w L) : Sp m_Evaluator_changeInto false (rmv 4 200) (exU K P J (.inl none) (fun T => ChR I T v eo co (chL op A B C nt w L).1 (chL op A B C nt w L).2 (∃ r ∈ L, stayF op A B r))) K P J I [vR (some v), vR (some eo), vR (some ei), vR (some qn), vI x] := by
  refine Sp.ofV (by decide) (Or.inr rfl) rfl ?_
  obtain ⟨hO, hE, ne, nc⟩ := id hA
  have hve : v ≠ eo := fun z => by have := hv.symm.trans (z ▸ hO.1); cases this
  have hvc : v ≠ co := fun z => by have := hv.symm.trans (z ▸ hO.2.2); cases this
  obtain ⟨hop, h13, h5, h6⟩ := hc
  have q1 : nt ≠ 0 → ((1 : Int) = 0) = (nt = 0) := fun z => propext ⟨fun y => by omega, fun y => absurd y z⟩
  have q0 : nt = 0 → ((0 : Int) = 0) = (nt = 0) := fun z => propext ⟨fun _ => z, fun _ => rfl⟩
  rcases hop with z | z | z | z | z
  · subst z
    have ew : chL 1 A B C nt w L = (w, flt (stayP 1 A B C nt) L) := if_pos (by decide)
    rw [ew] at h0 ⊢
    have oi := h13 (by decide)
    refine VW.aload_n (pc' := 1) d_Evaluator_changeInto_0 rfl rfl ?_
    refine VW.iload (pc' := 3) d_Evaluator_changeInto_1 rfl rfl ?_
    refine VW.iconst (pc' := 4) d_Evaluator_changeInto_3 rfl (by decide) ?_
    refine VW.cV (ci := 4) (T := T4) (N := 13) (pc' := 7) d_Evaluator_changeInto_4 rfl mv_Query_parameter lk_Evaluator_74 rfl (by first | exact hQ.k | exact hO.1 | exact hE.1 | assumption | exact hQ.k2 | exact hQ.k3 | exact hQ.k4 | exact hQ.k5 | exact hQ.k6 | exact hQ.k8 | exact hQ.k12) rfl rfl rfl (Nat.le_refl _) (Nat.le_refl _) (sp_Query_parameter hQ hx (by decide)) rfl rfl ?_
    rw [eA]
    refine VW.istore (pc' := 9) d_Evaluator_changeInto_7 rfl rfl ?_
    refine VW.aload_n (pc' := 10) d_Evaluator_changeInto_9 rfl rfl ?_
    refine VW.iload (pc' := 12) d_Evaluator_changeInto_10 rfl rfl ?_
    refine VW.iconst (pc' := 13) d_Evaluator_changeInto_12 rfl (by decide) ?_
    refine VW.cV (ci := 4) (T := T4) (N := 13) (pc' := 16) d_Evaluator_changeInto_13 rfl mv_Query_parameter lk_Evaluator_74 rfl (by first | exact hQ.k | exact hO.1 | exact hE.1 | assumption | exact hQ.k2 | exact hQ.k3 | exact hQ.k4 | exact hQ.k5 | exact hQ.k6 | exact hQ.k8 | exact hQ.k12) rfl rfl rfl (Nat.le_refl _) (Nat.le_refl _) (sp_Query_parameter hQ hx (by decide)) rfl rfl ?_
    rw [eB]
    refine VW.istore (pc' := 18) d_Evaluator_changeInto_16 rfl rfl ?_
    refine VW.aload_n (pc' := 19) d_Evaluator_changeInto_18 rfl rfl ?_
    refine VW.iload (pc' := 21) d_Evaluator_changeInto_19 rfl rfl ?_
    refine VW.iconst (pc' := 22) d_Evaluator_changeInto_21 rfl (by decide) ?_
    refine VW.cV (ci := 4) (T := T4) (N := 13) (pc' := 25) d_Evaluator_changeInto_22 rfl mv_Query_parameter lk_Evaluator_74 rfl (by first | exact hQ.k | exact hO.1 | exact hE.1 | assumption | exact hQ.k2 | exact hQ.k3 | exact hQ.k4 | exact hQ.k5 | exact hQ.k6 | exact hQ.k8 | exact hQ.k12) rfl rfl rfl (Nat.le_refl _) (Nat.le_refl _) (sp_Query_parameter hQ hx (by decide)) rfl rfl ?_
    rw [eC]
    refine VW.istore (pc' := 27) d_Evaluator_changeInto_25 rfl rfl ?_
    refine VW.aload_n (pc' := 28) d_Evaluator_changeInto_27 rfl rfl ?_
    refine VW.iload (pc' := 30) d_Evaluator_changeInto_28 rfl rfl ?_
    refine VW.iconst (pc' := 31) d_Evaluator_changeInto_30 rfl (by decide) ?_
    refine VW.cV (ci := 4) (T := T4) (N := 13) (pc' := 34) d_Evaluator_changeInto_31 rfl mv_Query_parameter lk_Evaluator_74 rfl (by first | exact hQ.k | exact hO.1 | exact hE.1 | assumption | exact hQ.k2 | exact hQ.k3 | exact hQ.k4 | exact hQ.k5 | exact hQ.k6 | exact hQ.k8 | exact hQ.k12) rfl rfl rfl (Nat.le_refl _) (Nat.le_refl _) (sp_Query_parameter hQ hx (by decide)) rfl rfl ?_
    rw [eN]
    refine VW.if_eq (tgt := 41) (pc' := 37) d_Evaluator_changeInto_34 rfl rfl (fun c34 => ?_) (fun c34 => ?_)
    · try have e34 := bIe c34
      refine VW.iconst (pc' := 42) d_Evaluator_changeInto_41 rfl (by decide) ?_
      refine VW.istore (pc' := 44) d_Evaluator_changeInto_42 rfl rfl ?_
      refine VW.aload_n (pc' := 45) d_Evaluator_changeInto_44 rfl rfl ?_
      refine VW.gP (ci := 4) (T := T4) (N := 13) (k := 2) (k' := 2) (pc' := 48) d_Evaluator_changeInto_45 rfl lk_Evaluator_68 in4 rfl rfl rfl rfl (by first | exact hQ.k | exact hO.1 | exact hE.1 | assumption | exact hQ.k2 | exact hQ.k3 | exact hQ.k4 | exact hQ.k5 | exact hQ.k6 | exact hQ.k8 | exact hQ.k12) (by first | exact hQ.p2 | exact hQ.p3 | exact hQ.p4 | exact hQ.p5 | exact hQ.p6 | exact hQ.p8 | exact hQ.p12 | rfl) ?_
      refine VW.iload (pc' := 50) d_Evaluator_changeInto_48 rfl rfl ?_
      refine VW.ild (pc' := 51) d_Evaluator_changeInto_50 rfl (by first | exact hQ.k | exact hO.1 | exact hE.1 | assumption | exact hQ.k2 | exact hQ.k3 | exact hQ.k4 | exact hQ.k5 | exact hQ.k6 | exact hQ.k8 | exact hQ.k12) (by omega) (by omega) (eO) ?_
      refine VW.tsIn (tgt := 84) d_Evaluator_changeInto_51 (by decide) (by decide) rfl rfl ?_
      refine VW.aload_n (pc' := 85) d_Evaluator_changeInto_84 rfl rfl ?_
      refine VW.aload_n (pc' := 86) d_Evaluator_changeInto_85 rfl rfl ?_
      refine VW.aload_n (pc' := 87) d_Evaluator_changeInto_86 rfl rfl ?_
      refine VW.iload (pc' := 89) d_Evaluator_changeInto_87 rfl rfl ?_
      refine VW.iload (pc' := 91) d_Evaluator_changeInto_89 rfl rfl ?_
      refine VW.iload (pc' := 93) d_Evaluator_changeInto_91 rfl rfl ?_
      refine VW.iload (pc' := 95) d_Evaluator_changeInto_93 rfl rfl ?_
      refine VW.cVu (ci := 1) (T := T1) (N := 7) (pc' := 98) d_Evaluator_changeInto_95 rfl mv_Evaluator_filterInto lk_Evaluator_117 rfl (by first | exact hQ.k | exact hO.1 | exact hE.1 | assumption | exact hQ.k2 | exact hQ.k3 | exact hQ.k4 | exact hQ.k5 | exact hQ.k6 | exact hQ.k8 | exact hQ.k12) rfl rfl rfl (Nat.le_refl _) (Nat.le_refl _) (sp_Evaluator_filterInto hv hA hR h0 hw hL oi.1 hf) rfl rfl (fun T2 h2 => ?_)
      refine VW.goto (pc' := 156) d_Evaluator_changeInto_98 rfl ?_
      exact VW.vret d_Evaluator_changeInto_156 rfl (Nat.zero_le _) (Nat.zero_le _) (⟨rfl, rfl, rfl, rfl, by first | (rw [← stayP_nt (q1 c34)]; exact ChR.of1 h2) | (rw [← stayP_nt (q0 c34)]; exact ChR.of1 h2)⟩)
    · try have e34 := bIn c34
      refine VW.iconst (pc' := 38) d_Evaluator_changeInto_37 rfl (by decide) ?_
      refine VW.goto (pc' := 42) d_Evaluator_changeInto_38 rfl ?_
      refine VW.istore (pc' := 44) d_Evaluator_changeInto_42 rfl rfl ?_
      refine VW.aload_n (pc' := 45) d_Evaluator_changeInto_44 rfl rfl ?_
      refine VW.gP (ci := 4) (T := T4) (N := 13) (k := 2) (k' := 2) (pc' := 48) d_Evaluator_changeInto_45 rfl lk_Evaluator_68 in4 rfl rfl rfl rfl (by first | exact hQ.k | exact hO.1 | exact hE.1 | assumption | exact hQ.k2 | exact hQ.k3 | exact hQ.k4 | exact hQ.k5 | exact hQ.k6 | exact hQ.k8 | exact hQ.k12) (by first | exact hQ.p2 | exact hQ.p3 | exact hQ.p4 | exact hQ.p5 | exact hQ.p6 | exact hQ.p8 | exact hQ.p12 | rfl) ?_
      refine VW.iload (pc' := 50) d_Evaluator_changeInto_48 rfl rfl ?_
      refine VW.ild (pc' := 51) d_Evaluator_changeInto_50 rfl (by first | exact hQ.k | exact hO.1 | exact hE.1 | assumption | exact hQ.k2 | exact hQ.k3 | exact hQ.k4 | exact hQ.k5 | exact hQ.k6 | exact hQ.k8 | exact hQ.k12) (by omega) (by omega) (eO) ?_
      refine VW.tsIn (tgt := 84) d_Evaluator_changeInto_51 (by decide) (by decide) rfl rfl ?_
      refine VW.aload_n (pc' := 85) d_Evaluator_changeInto_84 rfl rfl ?_
      refine VW.aload_n (pc' := 86) d_Evaluator_changeInto_85 rfl rfl ?_
      refine VW.aload_n (pc' := 87) d_Evaluator_changeInto_86 rfl rfl ?_
      refine VW.iload (pc' := 89) d_Evaluator_changeInto_87 rfl rfl ?_
      refine VW.iload (pc' := 91) d_Evaluator_changeInto_89 rfl rfl ?_
      refine VW.iload (pc' := 93) d_Evaluator_changeInto_91 rfl rfl ?_
      refine VW.iload (pc' := 95) d_Evaluator_changeInto_93 rfl rfl ?_
      refine VW.cVu (ci := 1) (T := T1) (N := 7) (pc' := 98) d_Evaluator_changeInto_95 rfl mv_Evaluator_filterInto lk_Evaluator_117 rfl (by first | exact hQ.k | exact hO.1 | exact hE.1 | assumption | exact hQ.k2 | exact hQ.k3 | exact hQ.k4 | exact hQ.k5 | exact hQ.k6 | exact hQ.k8 | exact hQ.k12) rfl rfl rfl (Nat.le_refl _) (Nat.le_refl _) (sp_Evaluator_filterInto hv hA hR h0 hw hL oi.1 hf) rfl rfl (fun T2 h2 => ?_)
      refine VW.goto (pc' := 156) d_Evaluator_changeInto_98 rfl ?_
      exact VW.vret d_Evaluator_changeInto_156 rfl (Nat.zero_le _) (Nat.zero_le _) (⟨rfl, rfl, rfl, rfl, by first | (rw [← stayP_nt (q1 c34)]; exact ChR.of1 h2) | (rw [← stayP_nt (q0 c34)]; exact ChR.of1 h2)⟩)
  · subst z
    have ew : chL 2 A B C nt w L = (w, flt (stayP 2 A B C nt) L) := if_pos (by decide)
    rw [ew] at h0 ⊢
    have oi := h13 (by decide)
    refine VW.aload_n (pc' := 1) d_Evaluator_changeInto_0 rfl rfl ?_
    refine VW.iload (pc' := 3) d_Evaluator_changeInto_1 rfl rfl ?_
    refine VW.iconst (pc' := 4) d_Evaluator_changeInto_3 rfl (by decide) ?_
    refine VW.cV (ci := 4) (T := T4) (N := 13) (pc' := 7) d_Evaluator_changeInto_4 rfl mv_Query_parameter lk_Evaluator_74 rfl (by first | exact hQ.k | exact hO.1 | exact hE.1 | assumption | exact hQ.k2 | exact hQ.k3 | exact hQ.k4 | exact hQ.k5 | exact hQ.k6 | exact hQ.k8 | exact hQ.k12) rfl rfl rfl (Nat.le_refl _) (Nat.le_refl _) (sp_Query_parameter hQ hx (by decide)) rfl rfl ?_
    rw [eA]
    refine VW.istore (pc' := 9) d_Evaluator_changeInto_7 rfl rfl ?_
    refine VW.aload_n (pc' := 10) d_Evaluator_changeInto_9 rfl rfl ?_
    refine VW.iload (pc' := 12) d_Evaluator_changeInto_10 rfl rfl ?_
    refine VW.iconst (pc' := 13) d_Evaluator_changeInto_12 rfl (by decide) ?_
    refine VW.cV (ci := 4) (T := T4) (N := 13) (pc' := 16) d_Evaluator_changeInto_13 rfl mv_Query_parameter lk_Evaluator_74 rfl (by first | exact hQ.k | exact hO.1 | exact hE.1 | assumption | exact hQ.k2 | exact hQ.k3 | exact hQ.k4 | exact hQ.k5 | exact hQ.k6 | exact hQ.k8 | exact hQ.k12) rfl rfl rfl (Nat.le_refl _) (Nat.le_refl _) (sp_Query_parameter hQ hx (by decide)) rfl rfl ?_
    rw [eB]
    refine VW.istore (pc' := 18) d_Evaluator_changeInto_16 rfl rfl ?_
    refine VW.aload_n (pc' := 19) d_Evaluator_changeInto_18 rfl rfl ?_
    refine VW.iload (pc' := 21) d_Evaluator_changeInto_19 rfl rfl ?_
    refine VW.iconst (pc' := 22) d_Evaluator_changeInto_21 rfl (by decide) ?_
    refine VW.cV (ci := 4) (T := T4) (N := 13) (pc' := 25) d_Evaluator_changeInto_22 rfl mv_Query_parameter lk_Evaluator_74 rfl (by first | exact hQ.k | exact hO.1 | exact hE.1 | assumption | exact hQ.k2 | exact hQ.k3 | exact hQ.k4 | exact hQ.k5 | exact hQ.k6 | exact hQ.k8 | exact hQ.k12) rfl rfl rfl (Nat.le_refl _) (Nat.le_refl _) (sp_Query_parameter hQ hx (by decide)) rfl rfl ?_
    rw [eC]
    refine VW.istore (pc' := 27) d_Evaluator_changeInto_25 rfl rfl ?_
    refine VW.aload_n (pc' := 28) d_Evaluator_changeInto_27 rfl rfl ?_
    refine VW.iload (pc' := 30) d_Evaluator_changeInto_28 rfl rfl ?_
    refine VW.iconst (pc' := 31) d_Evaluator_changeInto_30 rfl (by decide) ?_
    refine VW.cV (ci := 4) (T := T4) (N := 13) (pc' := 34) d_Evaluator_changeInto_31 rfl mv_Query_parameter lk_Evaluator_74 rfl (by first | exact hQ.k | exact hO.1 | exact hE.1 | assumption | exact hQ.k2 | exact hQ.k3 | exact hQ.k4 | exact hQ.k5 | exact hQ.k6 | exact hQ.k8 | exact hQ.k12) rfl rfl rfl (Nat.le_refl _) (Nat.le_refl _) (sp_Query_parameter hQ hx (by decide)) rfl rfl ?_
    rw [eN]
    refine VW.if_eq (tgt := 41) (pc' := 37) d_Evaluator_changeInto_34 rfl rfl (fun c34 => ?_) (fun c34 => ?_)
    · try have e34 := bIe c34
      refine VW.iconst (pc' := 42) d_Evaluator_changeInto_41 rfl (by decide) ?_
      refine VW.istore (pc' := 44) d_Evaluator_changeInto_42 rfl rfl ?_
      refine VW.aload_n (pc' := 45) d_Evaluator_changeInto_44 rfl rfl ?_
      refine VW.gP (ci := 4) (T := T4) (N := 13) (k := 2) (k' := 2) (pc' := 48) d_Evaluator_changeInto_45 rfl lk_Evaluator_68 in4 rfl rfl rfl rfl (by first | exact hQ.k | exact hO.1 | exact hE.1 | assumption | exact hQ.k2 | exact hQ.k3 | exact hQ.k4 | exact hQ.k5 | exact hQ.k6 | exact hQ.k8 | exact hQ.k12) (by first | exact hQ.p2 | exact hQ.p3 | exact hQ.p4 | exact hQ.p5 | exact hQ.p6 | exact hQ.p8 | exact hQ.p12 | rfl) ?_
      refine VW.iload (pc' := 50) d_Evaluator_changeInto_48 rfl rfl ?_
      refine VW.ild (pc' := 51) d_Evaluator_changeInto_50 rfl (by first | exact hQ.k | exact hO.1 | exact hE.1 | assumption | exact hQ.k2 | exact hQ.k3 | exact hQ.k4 | exact hQ.k5 | exact hQ.k6 | exact hQ.k8 | exact hQ.k12) (by omega) (by omega) (eO) ?_
      refine VW.tsIn (tgt := 101) d_Evaluator_changeInto_51 (by decide) (by decide) rfl rfl ?_
      refine VW.aload_n (pc' := 102) d_Evaluator_changeInto_101 rfl rfl ?_
      refine VW.aload_n (pc' := 103) d_Evaluator_changeInto_102 rfl rfl ?_
      refine VW.aload_n (pc' := 104) d_Evaluator_changeInto_103 rfl rfl ?_
      refine VW.iload (pc' := 106) d_Evaluator_changeInto_104 rfl rfl ?_
      refine VW.iload (pc' := 108) d_Evaluator_changeInto_106 rfl rfl ?_
      refine VW.iload (pc' := 110) d_Evaluator_changeInto_108 rfl rfl ?_
      refine VW.iload (pc' := 112) d_Evaluator_changeInto_110 rfl rfl ?_
      refine VW.cVu (ci := 1) (T := T1) (N := 7) (pc' := 115) d_Evaluator_changeInto_112 rfl mv_Evaluator_pairInto lk_Evaluator_121 rfl (by first | exact hQ.k | exact hO.1 | exact hE.1 | assumption | exact hQ.k2 | exact hQ.k3 | exact hQ.k4 | exact hQ.k5 | exact hQ.k6 | exact hQ.k8 | exact hQ.k12) rfl rfl rfl (Nat.le_refl _) (Nat.le_refl _) (sp_Evaluator_pairInto hv hA hR h0 hw hL oi.1 (oi.2.2 (by decide) (by decide)) hf) rfl rfl (fun T2 h2 => ?_)
      refine VW.goto (pc' := 156) d_Evaluator_changeInto_115 rfl ?_
      exact VW.vret d_Evaluator_changeInto_156 rfl (Nat.zero_le _) (Nat.zero_le _) (⟨rfl, rfl, rfl, rfl, by first | (rw [← stayP_nt (q1 c34)]; exact ChR.of1 h2) | (rw [← stayP_nt (q0 c34)]; exact ChR.of1 h2)⟩)
    · try have e34 := bIn c34
      refine VW.iconst (pc' := 38) d_Evaluator_changeInto_37 rfl (by decide) ?_
      refine VW.goto (pc' := 42) d_Evaluator_changeInto_38 rfl ?_
      refine VW.istore (pc' := 44) d_Evaluator_changeInto_42 rfl rfl ?_
      refine VW.aload_n (pc' := 45) d_Evaluator_changeInto_44 rfl rfl ?_
      refine VW.gP (ci := 4) (T := T4) (N := 13) (k := 2) (k' := 2) (pc' := 48) d_Evaluator_changeInto_45 rfl lk_Evaluator_68 in4 rfl rfl rfl rfl (by first | exact hQ.k | exact hO.1 | exact hE.1 | assumption | exact hQ.k2 | exact hQ.k3 | exact hQ.k4 | exact hQ.k5 | exact hQ.k6 | exact hQ.k8 | exact hQ.k12) (by first | exact hQ.p2 | exact hQ.p3 | exact hQ.p4 | exact hQ.p5 | exact hQ.p6 | exact hQ.p8 | exact hQ.p12 | rfl) ?_
      refine VW.iload (pc' := 50) d_Evaluator_changeInto_48 rfl rfl ?_
      refine VW.ild (pc' := 51) d_Evaluator_changeInto_50 rfl (by first | exact hQ.k | exact hO.1 | exact hE.1 | assumption | exact hQ.k2 | exact hQ.k3 | exact hQ.k4 | exact hQ.k5 | exact hQ.k6 | exact hQ.k8 | exact hQ.k12) (by omega) (by omega) (eO) ?_
      refine VW.tsIn (tgt := 101) d_Evaluator_changeInto_51 (by decide) (by decide) rfl rfl ?_
      refine VW.aload_n (pc' := 102) d_Evaluator_changeInto_101 rfl rfl ?_
      refine VW.aload_n (pc' := 103) d_Evaluator_changeInto_102 rfl rfl ?_
      refine VW.aload_n (pc' := 104) d_Evaluator_changeInto_103 rfl rfl ?_
      refine VW.iload (pc' := 106) d_Evaluator_changeInto_104 rfl rfl ?_
      refine VW.iload (pc' := 108) d_Evaluator_changeInto_106 rfl rfl ?_
      refine VW.iload (pc' := 110) d_Evaluator_changeInto_108 rfl rfl ?_
      refine VW.iload (pc' := 112) d_Evaluator_changeInto_110 rfl rfl ?_
      refine VW.cVu (ci := 1) (T := T1) (N := 7) (pc' := 115) d_Evaluator_changeInto_112 rfl mv_Evaluator_pairInto lk_Evaluator_121 rfl (by first | exact hQ.k | exact hO.1 | exact hE.1 | assumption | exact hQ.k2 | exact hQ.k3 | exact hQ.k4 | exact hQ.k5 | exact hQ.k6 | exact hQ.k8 | exact hQ.k12) rfl rfl rfl (Nat.le_refl _) (Nat.le_refl _) (sp_Evaluator_pairInto hv hA hR h0 hw hL oi.1 (oi.2.2 (by decide) (by decide)) hf) rfl rfl (fun T2 h2 => ?_)
      refine VW.goto (pc' := 156) d_Evaluator_changeInto_115 rfl ?_
      exact VW.vret d_Evaluator_changeInto_156 rfl (Nat.zero_le _) (Nat.zero_le _) (⟨rfl, rfl, rfl, rfl, by first | (rw [← stayP_nt (q1 c34)]; exact ChR.of1 h2) | (rw [← stayP_nt (q0 c34)]; exact ChR.of1 h2)⟩)
  · subst z
    have ew : chL 3 A B C nt w L = (w, flt (stayP 3 A B C nt) L) := if_pos (by decide)
    rw [ew] at h0 ⊢
    have oi := h13 (by decide)
    have e3 : stayP 3 A B C 0 = stayP 3 A B C nt := by
      funext r
      unfold stayP
      refine propext ⟨fun z => ?_, fun z => ?_⟩
      · rcases z with z | z | z
        · exact Or.inl z
        · exact absurd z.2.1 (by decide)
        · exact absurd rfl z.1
      · rcases z with z | z | z
        · exact Or.inl z
        · exact absurd z.2.1 (by decide)
        · exact absurd rfl z.1
    refine VW.aload_n (pc' := 1) d_Evaluator_changeInto_0 rfl rfl ?_
    refine VW.iload (pc' := 3) d_Evaluator_changeInto_1 rfl rfl ?_
    refine VW.iconst (pc' := 4) d_Evaluator_changeInto_3 rfl (by decide) ?_
    refine VW.cV (ci := 4) (T := T4) (N := 13) (pc' := 7) d_Evaluator_changeInto_4 rfl mv_Query_parameter lk_Evaluator_74 rfl (by first | exact hQ.k | exact hO.1 | exact hE.1 | assumption | exact hQ.k2 | exact hQ.k3 | exact hQ.k4 | exact hQ.k5 | exact hQ.k6 | exact hQ.k8 | exact hQ.k12) rfl rfl rfl (Nat.le_refl _) (Nat.le_refl _) (sp_Query_parameter hQ hx (by decide)) rfl rfl ?_
    rw [eA]
    refine VW.istore (pc' := 9) d_Evaluator_changeInto_7 rfl rfl ?_
    refine VW.aload_n (pc' := 10) d_Evaluator_changeInto_9 rfl rfl ?_
    refine VW.iload (pc' := 12) d_Evaluator_changeInto_10 rfl rfl ?_
    refine VW.iconst (pc' := 13) d_Evaluator_changeInto_12 rfl (by decide) ?_
    refine VW.cV (ci := 4) (T := T4) (N := 13) (pc' := 16) d_Evaluator_changeInto_13 rfl mv_Query_parameter lk_Evaluator_74 rfl (by first | exact hQ.k | exact hO.1 | exact hE.1 | assumption | exact hQ.k2 | exact hQ.k3 | exact hQ.k4 | exact hQ.k5 | exact hQ.k6 | exact hQ.k8 | exact hQ.k12) rfl rfl rfl (Nat.le_refl _) (Nat.le_refl _) (sp_Query_parameter hQ hx (by decide)) rfl rfl ?_
    rw [eB]
    refine VW.istore (pc' := 18) d_Evaluator_changeInto_16 rfl rfl ?_
    refine VW.aload_n (pc' := 19) d_Evaluator_changeInto_18 rfl rfl ?_
    refine VW.iload (pc' := 21) d_Evaluator_changeInto_19 rfl rfl ?_
    refine VW.iconst (pc' := 22) d_Evaluator_changeInto_21 rfl (by decide) ?_
    refine VW.cV (ci := 4) (T := T4) (N := 13) (pc' := 25) d_Evaluator_changeInto_22 rfl mv_Query_parameter lk_Evaluator_74 rfl (by first | exact hQ.k | exact hO.1 | exact hE.1 | assumption | exact hQ.k2 | exact hQ.k3 | exact hQ.k4 | exact hQ.k5 | exact hQ.k6 | exact hQ.k8 | exact hQ.k12) rfl rfl rfl (Nat.le_refl _) (Nat.le_refl _) (sp_Query_parameter hQ hx (by decide)) rfl rfl ?_
    rw [eC]
    refine VW.istore (pc' := 27) d_Evaluator_changeInto_25 rfl rfl ?_
    refine VW.aload_n (pc' := 28) d_Evaluator_changeInto_27 rfl rfl ?_
    refine VW.iload (pc' := 30) d_Evaluator_changeInto_28 rfl rfl ?_
    refine VW.iconst (pc' := 31) d_Evaluator_changeInto_30 rfl (by decide) ?_
    refine VW.cV (ci := 4) (T := T4) (N := 13) (pc' := 34) d_Evaluator_changeInto_31 rfl mv_Query_parameter lk_Evaluator_74 rfl (by first | exact hQ.k | exact hO.1 | exact hE.1 | assumption | exact hQ.k2 | exact hQ.k3 | exact hQ.k4 | exact hQ.k5 | exact hQ.k6 | exact hQ.k8 | exact hQ.k12) rfl rfl rfl (Nat.le_refl _) (Nat.le_refl _) (sp_Query_parameter hQ hx (by decide)) rfl rfl ?_
    rw [eN]
    refine VW.if_eq (tgt := 41) (pc' := 37) d_Evaluator_changeInto_34 rfl rfl (fun c34 => ?_) (fun c34 => ?_)
    · try have e34 := bIe c34
      refine VW.iconst (pc' := 42) d_Evaluator_changeInto_41 rfl (by decide) ?_
      refine VW.istore (pc' := 44) d_Evaluator_changeInto_42 rfl rfl ?_
      refine VW.aload_n (pc' := 45) d_Evaluator_changeInto_44 rfl rfl ?_
      refine VW.gP (ci := 4) (T := T4) (N := 13) (k := 2) (k' := 2) (pc' := 48) d_Evaluator_changeInto_45 rfl lk_Evaluator_68 in4 rfl rfl rfl rfl (by first | exact hQ.k | exact hO.1 | exact hE.1 | assumption | exact hQ.k2 | exact hQ.k3 | exact hQ.k4 | exact hQ.k5 | exact hQ.k6 | exact hQ.k8 | exact hQ.k12) (by first | exact hQ.p2 | exact hQ.p3 | exact hQ.p4 | exact hQ.p5 | exact hQ.p6 | exact hQ.p8 | exact hQ.p12 | rfl) ?_
      refine VW.iload (pc' := 50) d_Evaluator_changeInto_48 rfl rfl ?_
      refine VW.ild (pc' := 51) d_Evaluator_changeInto_50 rfl (by first | exact hQ.k | exact hO.1 | exact hE.1 | assumption | exact hQ.k2 | exact hQ.k3 | exact hQ.k4 | exact hQ.k5 | exact hQ.k6 | exact hQ.k8 | exact hQ.k12) (by omega) (by omega) (eO) ?_
      refine VW.tsIn (tgt := 118) d_Evaluator_changeInto_51 (by decide) (by decide) rfl rfl ?_
      refine VW.aload_n (pc' := 119) d_Evaluator_changeInto_118 rfl rfl ?_
      refine VW.aload_n (pc' := 120) d_Evaluator_changeInto_119 rfl rfl ?_
      refine VW.aload_n (pc' := 121) d_Evaluator_changeInto_120 rfl rfl ?_
      refine VW.iload (pc' := 123) d_Evaluator_changeInto_121 rfl rfl ?_
      refine VW.iload (pc' := 125) d_Evaluator_changeInto_123 rfl rfl ?_
      refine VW.iload (pc' := 127) d_Evaluator_changeInto_125 rfl rfl ?_
      refine VW.cVu (ci := 1) (T := T1) (N := 7) (pc' := 130) d_Evaluator_changeInto_127 rfl mv_Evaluator_ratioInto lk_Evaluator_124 rfl (by first | exact hQ.k | exact hO.1 | exact hE.1 | assumption | exact hQ.k2 | exact hQ.k3 | exact hQ.k4 | exact hQ.k5 | exact hQ.k6 | exact hQ.k8 | exact hQ.k12) rfl rfl rfl (Nat.le_refl _) (Nat.le_refl _) (sp_Evaluator_ratioInto hv hA hR h0 hw hL oi.1 (oi.2.1 rfl) hf) rfl rfl (fun T2 h2 => ?_)
      refine VW.goto (pc' := 156) d_Evaluator_changeInto_130 rfl ?_
      exact VW.vret d_Evaluator_changeInto_156 rfl (Nat.zero_le _) (Nat.zero_le _) (⟨rfl, rfl, rfl, rfl, by rw [← e3]; exact ChR.of1 h2⟩)
    · try have e34 := bIn c34
      refine VW.iconst (pc' := 38) d_Evaluator_changeInto_37 rfl (by decide) ?_
      refine VW.goto (pc' := 42) d_Evaluator_changeInto_38 rfl ?_
      refine VW.istore (pc' := 44) d_Evaluator_changeInto_42 rfl rfl ?_
      refine VW.aload_n (pc' := 45) d_Evaluator_changeInto_44 rfl rfl ?_
      refine VW.gP (ci := 4) (T := T4) (N := 13) (k := 2) (k' := 2) (pc' := 48) d_Evaluator_changeInto_45 rfl lk_Evaluator_68 in4 rfl rfl rfl rfl (by first | exact hQ.k | exact hO.1 | exact hE.1 | assumption | exact hQ.k2 | exact hQ.k3 | exact hQ.k4 | exact hQ.k5 | exact hQ.k6 | exact hQ.k8 | exact hQ.k12) (by first | exact hQ.p2 | exact hQ.p3 | exact hQ.p4 | exact hQ.p5 | exact hQ.p6 | exact hQ.p8 | exact hQ.p12 | rfl) ?_
      refine VW.iload (pc' := 50) d_Evaluator_changeInto_48 rfl rfl ?_
      refine VW.ild (pc' := 51) d_Evaluator_changeInto_50 rfl (by first | exact hQ.k | exact hO.1 | exact hE.1 | assumption | exact hQ.k2 | exact hQ.k3 | exact hQ.k4 | exact hQ.k5 | exact hQ.k6 | exact hQ.k8 | exact hQ.k12) (by omega) (by omega) (eO) ?_
      refine VW.tsIn (tgt := 118) d_Evaluator_changeInto_51 (by decide) (by decide) rfl rfl ?_
      refine VW.aload_n (pc' := 119) d_Evaluator_changeInto_118 rfl rfl ?_
      refine VW.aload_n (pc' := 120) d_Evaluator_changeInto_119 rfl rfl ?_
      refine VW.aload_n (pc' := 121) d_Evaluator_changeInto_120 rfl rfl ?_
      refine VW.iload (pc' := 123) d_Evaluator_changeInto_121 rfl rfl ?_
      refine VW.iload (pc' := 125) d_Evaluator_changeInto_123 rfl rfl ?_
      refine VW.iload (pc' := 127) d_Evaluator_changeInto_125 rfl rfl ?_
      refine VW.cVu (ci := 1) (T := T1) (N := 7) (pc' := 130) d_Evaluator_changeInto_127 rfl mv_Evaluator_ratioInto lk_Evaluator_124 rfl (by first | exact hQ.k | exact hO.1 | exact hE.1 | assumption | exact hQ.k2 | exact hQ.k3 | exact hQ.k4 | exact hQ.k5 | exact hQ.k6 | exact hQ.k8 | exact hQ.k12) rfl rfl rfl (Nat.le_refl _) (Nat.le_refl _) (sp_Evaluator_ratioInto hv hA hR h0 hw hL oi.1 (oi.2.1 rfl) hf) rfl rfl (fun T2 h2 => ?_)
      refine VW.goto (pc' := 156) d_Evaluator_changeInto_130 rfl ?_
      exact VW.vret d_Evaluator_changeInto_156 rfl (Nat.zero_le _) (Nat.zero_le _) (⟨rfl, rfl, rfl, rfl, by rw [← e3]; exact ChR.of1 h2⟩)
  · subst z
    have ew : chL 5 A B C nt w L = (wk A w, keepL A w L) := (if_neg (by decide)).trans (if_pos rfl)
    rw [ew] at h0 ⊢
    have oi := h5 rfl
    refine VW.aload_n (pc' := 1) d_Evaluator_changeInto_0 rfl rfl ?_
    refine VW.iload (pc' := 3) d_Evaluator_changeInto_1 rfl rfl ?_
    refine VW.iconst (pc' := 4) d_Evaluator_changeInto_3 rfl (by decide) ?_
    refine VW.cV (ci := 4) (T := T4) (N := 13) (pc' := 7) d_Evaluator_changeInto_4 rfl mv_Query_parameter lk_Evaluator_74 rfl (by first | exact hQ.k | exact hO.1 | exact hE.1 | assumption | exact hQ.k2 | exact hQ.k3 | exact hQ.k4 | exact hQ.k5 | exact hQ.k6 | exact hQ.k8 | exact hQ.k12) rfl rfl rfl (Nat.le_refl _) (Nat.le_refl _) (sp_Query_parameter hQ hx (by decide)) rfl rfl ?_
    rw [eA]
    refine VW.istore (pc' := 9) d_Evaluator_changeInto_7 rfl rfl ?_
    refine VW.aload_n (pc' := 10) d_Evaluator_changeInto_9 rfl rfl ?_
    refine VW.iload (pc' := 12) d_Evaluator_changeInto_10 rfl rfl ?_
    refine VW.iconst (pc' := 13) d_Evaluator_changeInto_12 rfl (by decide) ?_
    refine VW.cV (ci := 4) (T := T4) (N := 13) (pc' := 16) d_Evaluator_changeInto_13 rfl mv_Query_parameter lk_Evaluator_74 rfl (by first | exact hQ.k | exact hO.1 | exact hE.1 | assumption | exact hQ.k2 | exact hQ.k3 | exact hQ.k4 | exact hQ.k5 | exact hQ.k6 | exact hQ.k8 | exact hQ.k12) rfl rfl rfl (Nat.le_refl _) (Nat.le_refl _) (sp_Query_parameter hQ hx (by decide)) rfl rfl ?_
    rw [eB]
    refine VW.istore (pc' := 18) d_Evaluator_changeInto_16 rfl rfl ?_
    refine VW.aload_n (pc' := 19) d_Evaluator_changeInto_18 rfl rfl ?_
    refine VW.iload (pc' := 21) d_Evaluator_changeInto_19 rfl rfl ?_
    refine VW.iconst (pc' := 22) d_Evaluator_changeInto_21 rfl (by decide) ?_
    refine VW.cV (ci := 4) (T := T4) (N := 13) (pc' := 25) d_Evaluator_changeInto_22 rfl mv_Query_parameter lk_Evaluator_74 rfl (by first | exact hQ.k | exact hO.1 | exact hE.1 | assumption | exact hQ.k2 | exact hQ.k3 | exact hQ.k4 | exact hQ.k5 | exact hQ.k6 | exact hQ.k8 | exact hQ.k12) rfl rfl rfl (Nat.le_refl _) (Nat.le_refl _) (sp_Query_parameter hQ hx (by decide)) rfl rfl ?_
    rw [eC]
    refine VW.istore (pc' := 27) d_Evaluator_changeInto_25 rfl rfl ?_
    refine VW.aload_n (pc' := 28) d_Evaluator_changeInto_27 rfl rfl ?_
    refine VW.iload (pc' := 30) d_Evaluator_changeInto_28 rfl rfl ?_
    refine VW.iconst (pc' := 31) d_Evaluator_changeInto_30 rfl (by decide) ?_
    refine VW.cV (ci := 4) (T := T4) (N := 13) (pc' := 34) d_Evaluator_changeInto_31 rfl mv_Query_parameter lk_Evaluator_74 rfl (by first | exact hQ.k | exact hO.1 | exact hE.1 | assumption | exact hQ.k2 | exact hQ.k3 | exact hQ.k4 | exact hQ.k5 | exact hQ.k6 | exact hQ.k8 | exact hQ.k12) rfl rfl rfl (Nat.le_refl _) (Nat.le_refl _) (sp_Query_parameter hQ hx (by decide)) rfl rfl ?_
    rw [eN]
    refine VW.if_eq (tgt := 41) (pc' := 37) d_Evaluator_changeInto_34 rfl rfl (fun c34 => ?_) (fun c34 => ?_)
    · try have e34 := bIe c34
      refine VW.iconst (pc' := 42) d_Evaluator_changeInto_41 rfl (by decide) ?_
      refine VW.istore (pc' := 44) d_Evaluator_changeInto_42 rfl rfl ?_
      refine VW.aload_n (pc' := 45) d_Evaluator_changeInto_44 rfl rfl ?_
      refine VW.gP (ci := 4) (T := T4) (N := 13) (k := 2) (k' := 2) (pc' := 48) d_Evaluator_changeInto_45 rfl lk_Evaluator_68 in4 rfl rfl rfl rfl (by first | exact hQ.k | exact hO.1 | exact hE.1 | assumption | exact hQ.k2 | exact hQ.k3 | exact hQ.k4 | exact hQ.k5 | exact hQ.k6 | exact hQ.k8 | exact hQ.k12) (by first | exact hQ.p2 | exact hQ.p3 | exact hQ.p4 | exact hQ.p5 | exact hQ.p6 | exact hQ.p8 | exact hQ.p12 | rfl) ?_
      refine VW.iload (pc' := 50) d_Evaluator_changeInto_48 rfl rfl ?_
      refine VW.ild (pc' := 51) d_Evaluator_changeInto_50 rfl (by first | exact hQ.k | exact hO.1 | exact hE.1 | assumption | exact hQ.k2 | exact hQ.k3 | exact hQ.k4 | exact hQ.k5 | exact hQ.k6 | exact hQ.k8 | exact hQ.k12) (by omega) (by omega) (eO) ?_
      refine VW.tsIn (tgt := 133) d_Evaluator_changeInto_51 (by decide) (by decide) rfl rfl ?_
      refine VW.aload_n (pc' := 134) d_Evaluator_changeInto_133 rfl rfl ?_
      refine VW.aload_n (pc' := 135) d_Evaluator_changeInto_134 rfl rfl ?_
      refine VW.aload_n (pc' := 136) d_Evaluator_changeInto_135 rfl rfl ?_
      refine VW.iload (pc' := 138) d_Evaluator_changeInto_136 rfl rfl ?_
      refine VW.cVu (ci := 1) (T := T1) (N := 7) (pc' := 141) d_Evaluator_changeInto_138 rfl mv_Evaluator_keepInto lk_Evaluator_128 rfl (by first | exact hQ.k | exact hO.1 | exact hE.1 | assumption | exact hQ.k2 | exact hQ.k3 | exact hQ.k4 | exact hQ.k5 | exact hQ.k6 | exact hQ.k8 | exact hQ.k12) rfl rfl rfl (Nat.le_refl _) (Nat.le_refl _) (sp_Evaluator_keepInto (v := v) hA hR h0 hw hL oi) rfl rfl (fun T2 h2 => ?_)
      refine VW.goto (pc' := 156) d_Evaluator_changeInto_141 rfl ?_
      exact VW.vret d_Evaluator_changeInto_156 rfl (Nat.zero_le _) (Nat.zero_le _) (⟨rfl, rfl, rfl, rfl, ChR.of2 ⟨hve, hvc⟩ h2 (fun ⟨r, _, y⟩ => absurd y.1 (by decide)) hf⟩)
    · try have e34 := bIn c34
      refine VW.iconst (pc' := 38) d_Evaluator_changeInto_37 rfl (by decide) ?_
      refine VW.goto (pc' := 42) d_Evaluator_changeInto_38 rfl ?_
      refine VW.istore (pc' := 44) d_Evaluator_changeInto_42 rfl rfl ?_
      refine VW.aload_n (pc' := 45) d_Evaluator_changeInto_44 rfl rfl ?_
      refine VW.gP (ci := 4) (T := T4) (N := 13) (k := 2) (k' := 2) (pc' := 48) d_Evaluator_changeInto_45 rfl lk_Evaluator_68 in4 rfl rfl rfl rfl (by first | exact hQ.k | exact hO.1 | exact hE.1 | assumption | exact hQ.k2 | exact hQ.k3 | exact hQ.k4 | exact hQ.k5 | exact hQ.k6 | exact hQ.k8 | exact hQ.k12) (by first | exact hQ.p2 | exact hQ.p3 | exact hQ.p4 | exact hQ.p5 | exact hQ.p6 | exact hQ.p8 | exact hQ.p12 | rfl) ?_
      refine VW.iload (pc' := 50) d_Evaluator_changeInto_48 rfl rfl ?_
      refine VW.ild (pc' := 51) d_Evaluator_changeInto_50 rfl (by first | exact hQ.k | exact hO.1 | exact hE.1 | assumption | exact hQ.k2 | exact hQ.k3 | exact hQ.k4 | exact hQ.k5 | exact hQ.k6 | exact hQ.k8 | exact hQ.k12) (by omega) (by omega) (eO) ?_
      refine VW.tsIn (tgt := 133) d_Evaluator_changeInto_51 (by decide) (by decide) rfl rfl ?_
      refine VW.aload_n (pc' := 134) d_Evaluator_changeInto_133 rfl rfl ?_
      refine VW.aload_n (pc' := 135) d_Evaluator_changeInto_134 rfl rfl ?_
      refine VW.aload_n (pc' := 136) d_Evaluator_changeInto_135 rfl rfl ?_
      refine VW.iload (pc' := 138) d_Evaluator_changeInto_136 rfl rfl ?_
      refine VW.cVu (ci := 1) (T := T1) (N := 7) (pc' := 141) d_Evaluator_changeInto_138 rfl mv_Evaluator_keepInto lk_Evaluator_128 rfl (by first | exact hQ.k | exact hO.1 | exact hE.1 | assumption | exact hQ.k2 | exact hQ.k3 | exact hQ.k4 | exact hQ.k5 | exact hQ.k6 | exact hQ.k8 | exact hQ.k12) rfl rfl rfl (Nat.le_refl _) (Nat.le_refl _) (sp_Evaluator_keepInto (v := v) hA hR h0 hw hL oi) rfl rfl (fun T2 h2 => ?_)
      refine VW.goto (pc' := 156) d_Evaluator_changeInto_141 rfl ?_
      exact VW.vret d_Evaluator_changeInto_156 rfl (Nat.zero_le _) (Nat.zero_le _) (⟨rfl, rfl, rfl, rfl, ChR.of2 ⟨hve, hvc⟩ h2 (fun ⟨r, _, y⟩ => absurd y.1 (by decide)) hf⟩)
  · subst z
    have ew : chL 6 A B C nt w L = (2, groupL B A C L) := (if_neg (by decide)).trans (if_neg (by decide))
    rw [ew] at h0 ⊢
    have oi := h6 rfl
    refine VW.aload_n (pc' := 1) d_Evaluator_changeInto_0 rfl rfl ?_
    refine VW.iload (pc' := 3) d_Evaluator_changeInto_1 rfl rfl ?_
    refine VW.iconst (pc' := 4) d_Evaluator_changeInto_3 rfl (by decide) ?_
    refine VW.cV (ci := 4) (T := T4) (N := 13) (pc' := 7) d_Evaluator_changeInto_4 rfl mv_Query_parameter lk_Evaluator_74 rfl (by first | exact hQ.k | exact hO.1 | exact hE.1 | assumption | exact hQ.k2 | exact hQ.k3 | exact hQ.k4 | exact hQ.k5 | exact hQ.k6 | exact hQ.k8 | exact hQ.k12) rfl rfl rfl (Nat.le_refl _) (Nat.le_refl _) (sp_Query_parameter hQ hx (by decide)) rfl rfl ?_
    rw [eA]
    refine VW.istore (pc' := 9) d_Evaluator_changeInto_7 rfl rfl ?_
    refine VW.aload_n (pc' := 10) d_Evaluator_changeInto_9 rfl rfl ?_
    refine VW.iload (pc' := 12) d_Evaluator_changeInto_10 rfl rfl ?_
    refine VW.iconst (pc' := 13) d_Evaluator_changeInto_12 rfl (by decide) ?_
    refine VW.cV (ci := 4) (T := T4) (N := 13) (pc' := 16) d_Evaluator_changeInto_13 rfl mv_Query_parameter lk_Evaluator_74 rfl (by first | exact hQ.k | exact hO.1 | exact hE.1 | assumption | exact hQ.k2 | exact hQ.k3 | exact hQ.k4 | exact hQ.k5 | exact hQ.k6 | exact hQ.k8 | exact hQ.k12) rfl rfl rfl (Nat.le_refl _) (Nat.le_refl _) (sp_Query_parameter hQ hx (by decide)) rfl rfl ?_
    rw [eB]
    refine VW.istore (pc' := 18) d_Evaluator_changeInto_16 rfl rfl ?_
    refine VW.aload_n (pc' := 19) d_Evaluator_changeInto_18 rfl rfl ?_
    refine VW.iload (pc' := 21) d_Evaluator_changeInto_19 rfl rfl ?_
    refine VW.iconst (pc' := 22) d_Evaluator_changeInto_21 rfl (by decide) ?_
    refine VW.cV (ci := 4) (T := T4) (N := 13) (pc' := 25) d_Evaluator_changeInto_22 rfl mv_Query_parameter lk_Evaluator_74 rfl (by first | exact hQ.k | exact hO.1 | exact hE.1 | assumption | exact hQ.k2 | exact hQ.k3 | exact hQ.k4 | exact hQ.k5 | exact hQ.k6 | exact hQ.k8 | exact hQ.k12) rfl rfl rfl (Nat.le_refl _) (Nat.le_refl _) (sp_Query_parameter hQ hx (by decide)) rfl rfl ?_
    rw [eC]
    refine VW.istore (pc' := 27) d_Evaluator_changeInto_25 rfl rfl ?_
    refine VW.aload_n (pc' := 28) d_Evaluator_changeInto_27 rfl rfl ?_
    refine VW.iload (pc' := 30) d_Evaluator_changeInto_28 rfl rfl ?_
    refine VW.iconst (pc' := 31) d_Evaluator_changeInto_30 rfl (by decide) ?_
    refine VW.cV (ci := 4) (T := T4) (N := 13) (pc' := 34) d_Evaluator_changeInto_31 rfl mv_Query_parameter lk_Evaluator_74 rfl (by first | exact hQ.k | exact hO.1 | exact hE.1 | assumption | exact hQ.k2 | exact hQ.k3 | exact hQ.k4 | exact hQ.k5 | exact hQ.k6 | exact hQ.k8 | exact hQ.k12) rfl rfl rfl (Nat.le_refl _) (Nat.le_refl _) (sp_Query_parameter hQ hx (by decide)) rfl rfl ?_
    rw [eN]
    refine VW.if_eq (tgt := 41) (pc' := 37) d_Evaluator_changeInto_34 rfl rfl (fun c34 => ?_) (fun c34 => ?_)
    · try have e34 := bIe c34
      refine VW.iconst (pc' := 42) d_Evaluator_changeInto_41 rfl (by decide) ?_
      refine VW.istore (pc' := 44) d_Evaluator_changeInto_42 rfl rfl ?_
      refine VW.aload_n (pc' := 45) d_Evaluator_changeInto_44 rfl rfl ?_
      refine VW.gP (ci := 4) (T := T4) (N := 13) (k := 2) (k' := 2) (pc' := 48) d_Evaluator_changeInto_45 rfl lk_Evaluator_68 in4 rfl rfl rfl rfl (by first | exact hQ.k | exact hO.1 | exact hE.1 | assumption | exact hQ.k2 | exact hQ.k3 | exact hQ.k4 | exact hQ.k5 | exact hQ.k6 | exact hQ.k8 | exact hQ.k12) (by first | exact hQ.p2 | exact hQ.p3 | exact hQ.p4 | exact hQ.p5 | exact hQ.p6 | exact hQ.p8 | exact hQ.p12 | rfl) ?_
      refine VW.iload (pc' := 50) d_Evaluator_changeInto_48 rfl rfl ?_
      refine VW.ild (pc' := 51) d_Evaluator_changeInto_50 rfl (by first | exact hQ.k | exact hO.1 | exact hE.1 | assumption | exact hQ.k2 | exact hQ.k3 | exact hQ.k4 | exact hQ.k5 | exact hQ.k6 | exact hQ.k8 | exact hQ.k12) (by omega) (by omega) (eO) ?_
      refine VW.tsOut (tgt := 144) d_Evaluator_changeInto_51 (by decide) rfl ?_
      refine VW.aload_n (pc' := 145) d_Evaluator_changeInto_144 rfl rfl ?_
      refine VW.aload_n (pc' := 146) d_Evaluator_changeInto_145 rfl rfl ?_
      refine VW.aload_n (pc' := 147) d_Evaluator_changeInto_146 rfl rfl ?_
      refine VW.iload (pc' := 149) d_Evaluator_changeInto_147 rfl rfl ?_
      refine VW.iload (pc' := 151) d_Evaluator_changeInto_149 rfl rfl ?_
      refine VW.iload (pc' := 153) d_Evaluator_changeInto_151 rfl rfl ?_
      refine VW.cVu (ci := 1) (T := T1) (N := 7) (pc' := 156) d_Evaluator_changeInto_153 rfl mv_Evaluator_groupInto lk_Evaluator_132 rfl (by first | exact hQ.k | exact hO.1 | exact hE.1 | assumption | exact hQ.k2 | exact hQ.k3 | exact hQ.k4 | exact hQ.k5 | exact hQ.k6 | exact hQ.k8 | exact hQ.k12) rfl rfl rfl (Nat.le_refl _) (Nat.le_refl _) (sp_Evaluator_groupInto (v := v) hA hR h0 hw hL oi.1 oi.2.1 oi.2.2) rfl rfl (fun T2 h2 => ?_)
      exact VW.vret d_Evaluator_changeInto_156 rfl (Nat.zero_le _) (Nat.zero_le _) (⟨rfl, rfl, rfl, rfl, ChR.of2 ⟨hve, hvc⟩ h2 (fun ⟨r, _, y⟩ => absurd y.1 (by decide)) hf⟩)
    · try have e34 := bIn c34
      refine VW.iconst (pc' := 38) d_Evaluator_changeInto_37 rfl (by decide) ?_
      refine VW.goto (pc' := 42) d_Evaluator_changeInto_38 rfl ?_
      refine VW.istore (pc' := 44) d_Evaluator_changeInto_42 rfl rfl ?_
      refine VW.aload_n (pc' := 45) d_Evaluator_changeInto_44 rfl rfl ?_
      refine VW.gP (ci := 4) (T := T4) (N := 13) (k := 2) (k' := 2) (pc' := 48) d_Evaluator_changeInto_45 rfl lk_Evaluator_68 in4 rfl rfl rfl rfl (by first | exact hQ.k | exact hO.1 | exact hE.1 | assumption | exact hQ.k2 | exact hQ.k3 | exact hQ.k4 | exact hQ.k5 | exact hQ.k6 | exact hQ.k8 | exact hQ.k12) (by first | exact hQ.p2 | exact hQ.p3 | exact hQ.p4 | exact hQ.p5 | exact hQ.p6 | exact hQ.p8 | exact hQ.p12 | rfl) ?_
      refine VW.iload (pc' := 50) d_Evaluator_changeInto_48 rfl rfl ?_
      refine VW.ild (pc' := 51) d_Evaluator_changeInto_50 rfl (by first | exact hQ.k | exact hO.1 | exact hE.1 | assumption | exact hQ.k2 | exact hQ.k3 | exact hQ.k4 | exact hQ.k5 | exact hQ.k6 | exact hQ.k8 | exact hQ.k12) (by omega) (by omega) (eO) ?_
      refine VW.tsOut (tgt := 144) d_Evaluator_changeInto_51 (by decide) rfl ?_
      refine VW.aload_n (pc' := 145) d_Evaluator_changeInto_144 rfl rfl ?_
      refine VW.aload_n (pc' := 146) d_Evaluator_changeInto_145 rfl rfl ?_
      refine VW.aload_n (pc' := 147) d_Evaluator_changeInto_146 rfl rfl ?_
      refine VW.iload (pc' := 149) d_Evaluator_changeInto_147 rfl rfl ?_
      refine VW.iload (pc' := 151) d_Evaluator_changeInto_149 rfl rfl ?_
      refine VW.iload (pc' := 153) d_Evaluator_changeInto_151 rfl rfl ?_
      refine VW.cVu (ci := 1) (T := T1) (N := 7) (pc' := 156) d_Evaluator_changeInto_153 rfl mv_Evaluator_groupInto lk_Evaluator_132 rfl (by first | exact hQ.k | exact hO.1 | exact hE.1 | assumption | exact hQ.k2 | exact hQ.k3 | exact hQ.k4 | exact hQ.k5 | exact hQ.k6 | exact hQ.k8 | exact hQ.k12) rfl rfl rfl (Nat.le_refl _) (Nat.le_refl _) (sp_Evaluator_groupInto (v := v) hA hR h0 hw hL oi.1 oi.2.1 oi.2.2) rfl rfl (fun T2 h2 => ?_)
      exact VW.vret d_Evaluator_changeInto_156 rfl (Nat.zero_le _) (Nat.zero_le _) (⟨rfl, rfl, rfl, rfl, ChR.of2 ⟨hve, hvc⟩ h2 (fun ⟨r, _, y⟩ => absurd y.1 (by decide)) hf⟩)
end
