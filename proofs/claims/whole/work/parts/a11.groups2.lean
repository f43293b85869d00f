section
variable {K : KT} {P : PT} {J I : IT}
def GIc (I T : IT) (eo co : Nat) (M : List (List Int)) : Prop := RelR T eo co 2 M ∧ ∀ q, q ≠ eo → q ≠ co → T q = I q
theorem gath_C {how had v : Int} : gath how had (if how = 0 then 0 else v) = gath how had v := by
  by_cases h : how = 0
  · unfold gath
    rw [if_pos h, if_pos h]
  · rw [if_neg h]
theorem sp_Evaluator_groupInto {v eo co ei ci w : Nat} {A how C : Int} {L : List (List Int)} (hA : ReA K P eo co ei ci) (hR : RelR I ei ci w L) (h0 : RelR I eo co 2 []) (hw : w ≤ 10) (hL : L.length ≤ 512) (hAc : A = -1 ∨ (0 ≤ A ∧ A < w)) (hC : 0 ≤ C ∧ C < w) (hr : ∀ k : Nat, k < L.length → ∀ z ∈ groupL how A C (L.take (k + 1)), inR (nth z 1)) : Sp m_Evaluator_groupInto false (rmv 2 120) (exU K P J (.inl none) (fun T => RelR T eo co 2 (groupL how A C L) ∧ ∀ q, q ≠ eo → q ≠ co → T q = I q)) K P J I [vR (some v), vR (some eo), vR (some ei), vI A, vI how, vI C] := by
  refine Sp.ofV (by decide) (Or.inr rfl) rfl ?_
  obtain ⟨hO, hE, ne, nc⟩ := id hA
  have nei : ei ≠ co := hE.ne2 hO
  have nci : ci ≠ eo := fun z => hO.ne2 hE z.symm
  have loop : ∀ (l k : Nat) (T : IT), k + l = L.length → GIc I T eo co (groupL how A C (L.take k)) → VW m_Evaluator_groupInto false (rmv 2 120) (exU K P J (.inl none) (fun T => RelR T eo co 2 (groupL how A C L) ∧ ∀ q, q ≠ eo → q ≠ co → T q = I q)) K P J T 0 0 16 [(0, vR (some v)), (1, vR (some eo)), (2, vR (some ei)), (3, vI A), (4, vI how), (5, vI C), (6, vI (k : Int))] [] := by
    intro l
    induction l with
    | zero =>
      intro k T hk h
      have ek : k = L.length := by omega
      subst ek
      rw [List.take_length] at h
      have tm : T ei 1 = L.length := by rw [h.2 ei ne.symm nei]; exact hR.2.1
      refine VW.iload (pc' := 18) d_Evaluator_groupInto_16 rfl rfl ?_
      refine VW.aload_n (pc' := 19) d_Evaluator_groupInto_18 rfl rfl ?_
      refine VW.gI (ci := 5) (T := T5) (N := 3) (k := 1) (k' := 1) (pc' := 22) d_Evaluator_groupInto_19 rfl lk_Evaluator_61 in5 rfl rfl rfl rfl (by first | exact hO.1 | exact hO.2.2 | exact hE.1 | exact hE.2.2 | assumption) (tm) ?_
      refine VW.icmp_ge (tgt := 118) (pc' := 25) d_Evaluator_groupInto_22 rfl rfl (fun c22 => ?_) (fun c22 => ?_)
      · exact VW.vret d_Evaluator_groupInto_118 rfl (Nat.zero_le _) (Nat.zero_le _) (⟨rfl, rfl, rfl, rfl, h⟩)
      · exfalso; omega
    | succ l ih =>
      intro k T hk h
      have hrow := hR.row (k := k) (by omega)
      rw [Int.mul_comm] at hrow
      have te : T ei = I ei := h.2 ei ne.symm nei
      have tm : T ei 1 = L.length := by rw [te]; exact hR.2.1
      have tw : T ei 2 = w := by rw [te]; exact hR.1
      have m1 := relMul (w := w) (m := k) hw (by omega)
      have gl : (groupL how A C (L.take k)).length ≤ 1 + k := by
        have a := groupL_len (how := how) (A := A) (C := C) (L.take k) (g0 how A)
        have b := g0_len (how := how) (A := A)
        rw [List.length_take] at a
        unfold groupL
        omega
      have t1 : T eo 1 = _ := h.1.2.1
      have t2 : T eo 2 = 2 := h.1.1
      have nx := fun (T : IT) h => ih (k + 1) T (by omega) h
      rw [take_snoc hrow, groupL_snoc, show ((k + 1 : Nat) : Int) = (k : Int) + 1 by omega] at nx
      have hr9 := hr k (by omega)
      rw [take_snoc hrow, groupL_snoc] at hr9
      have mid : ∀ (T1 : IT) (acc : List (List Int)) (j : Nat) (key : Int) (r : List Int), GIc I T1 eo co acc → acc.length ≤ 600 → acc[j]? = some r → nth r 0 = key → key = (if A = -1 then -2147483648 else nth (rowAt I ci ((k : Int) * (w : Int)) w) A) → (∀ vv, acc.set j [key, gath how (nth r 1) vv] = gUpd how key vv (groupL how A C (L.take k))) → VW m_Evaluator_groupInto false (rmv 2 120) (exU K P J (.inl none) (fun T => RelR T eo co 2 (groupL how A C L) ∧ ∀ q, q ≠ eo → q ≠ co → T q = I q)) K P J T1 0 0 74 [(0, vR (some v)), (1, vR (some eo)), (2, vR (some ei)), (3, vI A), (4, vI how), (5, vI C), (6, vI (k : Int)), (7, vI key), (8, vI (j : Int))] [] := by
        intro T1 acc j key r g1 g2 g3 g4 g5 g6
        have hj := (List.getElem?_eq_some_iff.mp g3).1
        obtain ⟨r', q1, q2, q3⟩ := gr_key g1.1 hj
        rw [g3] at q1
        cases q1
        have te : T1 ei = I ei := g1.2 ei ne.symm nei
        have tci : T1 ci = I ci := g1.2 ci nci nc.symm
        have tw : T1 ei 2 = w := by rw [te]; exact hR.1
        have t2 : T1 eo 2 = 2 := g1.1.1
        have cel : nth (rowAt I ci ((k : Int) * (w : Int)) w) C = T1 ci ((k : Int) * T1 ei 2 + C) := by rw [nth_rowAt (by omega) (by omega), tci, tw]
        have e7 : gUpd how key (if how = 0 then 0 else nth (rowAt I ci ((k : Int) * (w : Int)) w) C) (groupL how A C (L.take k)) = acc.set j [key, gath how (T1 co ((j : Int) * 2 + 1)) (T1 ci ((k : Int) * T1 ei 2 + C))] := by
          rw [← g6, gath_C, cel, q3]
        have e8 : gStep how A C (groupL how A C (L.take k)) (rowAt I ci ((k : Int) * (w : Int)) w) = acc.set j [key, gath how (T1 co ((j : Int) * 2 + 1)) (T1 ci ((k : Int) * T1 ei 2 + C))] := by
          unfold gStep
          rw [← g5]
          exact e7
        have rr : inR (gath how (T1 co ((j : Int) * 2 + 1)) (T1 ci ((k : Int) * T1 ei 2 + C))) := by
          have h9 := hr9 [key, gath how (T1 co ((j : Int) * 2 + 1)) (T1 ci ((k : Int) * T1 ei 2 + C))] (by
            rw [e8]
            exact List.mem_of_getElem? (i := j) (by rw [List.getElem?_set_self hj]))
          exact h9
        have r0 : how = 0 → inR (T1 co ((j : Int) * 2 + 1) + 1) := fun z => by
          have e : gath how (T1 co ((j : Int) * 2 + 1)) (T1 ci ((k : Int) * T1 ei 2 + C)) = T1 co ((j : Int) * 2 + 1) + 1 := if_pos z
          rw [← e]; exact rr
        have r1 : how = 1 → T1 ci ((k : Int) * T1 ei 2 + C) ≠ -2147483648 → T1 co ((j : Int) * 2 + 1) ≠ -2147483648 → inR (T1 co ((j : Int) * 2 + 1) + T1 ci ((k : Int) * T1 ei 2 + C)) := fun z z1 z2 => by
          have e : gath how (T1 co ((j : Int) * 2 + 1)) (T1 ci ((k : Int) * T1 ei 2 + C)) = T1 co ((j : Int) * 2 + 1) + T1 ci ((k : Int) * T1 ei 2 + C) := (if_neg (by omega)).trans ((if_neg z1).trans ((if_neg z2).trans (if_pos z)))
          rw [← e]; exact rr
        have n9 := nx _ ⟨by rw [e8]; exact gr_set hO.ne g1.1 hj (by rw [← q2]; exact g4), fun q z1 z2 => (funext (fun y => up2_o _ _ _ _ z2)).trans (g1.2 q z1 z2)⟩
        clear nx ih e7 e8 rr hr9
        refine VW.iload (pc' := 76) d_Evaluator_groupInto_74 rfl rfl ?_
        refine VW.aload_n (pc' := 77) d_Evaluator_groupInto_76 rfl rfl ?_
        refine VW.gI (ci := 5) (T := T5) (N := 3) (k := 2) (k' := 2) (pc' := 80) d_Evaluator_groupInto_77 rfl lk_Evaluator_54 in5 rfl rfl rfl rfl (by first | exact hO.1 | exact hO.2.2 | exact hE.1 | exact hE.2.2 | assumption) (t2) ?_
        refine VW.imul (pc' := 81) d_Evaluator_groupInto_80 rfl (by omega) ?_
        refine VW.iconst (pc' := 82) d_Evaluator_groupInto_81 rfl (by decide) ?_
        refine VW.iadd (pc' := 83) d_Evaluator_groupInto_82 rfl (by omega) ?_
        refine VW.istore (pc' := 85) d_Evaluator_groupInto_83 rfl rfl ?_
        refine VW.aload_n (pc' := 86) d_Evaluator_groupInto_85 rfl rfl ?_
        refine VW.gP (ci := 5) (T := T5) (N := 3) (k := 0) (k' := 0) (pc' := 89) d_Evaluator_groupInto_86 rfl lk_Evaluator_142 in5 rfl rfl rfl rfl (by first | exact hO.1 | exact hO.2.2 | exact hE.1 | exact hE.2.2 | assumption) (by first | exact hO.2.1 | exact hE.2.1 | rfl) ?_
        refine VW.iload (pc' := 91) d_Evaluator_groupInto_89 rfl rfl ?_
        refine VW.aload_n (pc' := 92) d_Evaluator_groupInto_91 rfl rfl ?_
        refine VW.gP (ci := 5) (T := T5) (N := 3) (k := 0) (k' := 0) (pc' := 95) d_Evaluator_groupInto_92 rfl lk_Evaluator_142 in5 rfl rfl rfl rfl (by first | exact hO.1 | exact hO.2.2 | exact hE.1 | exact hE.2.2 | assumption) (by first | exact hO.2.1 | exact hE.2.1 | rfl) ?_
        refine VW.iload (pc' := 97) d_Evaluator_groupInto_95 rfl rfl ?_
        refine VW.ild (pc' := 98) d_Evaluator_groupInto_97 rfl (by first | exact hO.1 | exact hO.2.2 | exact hE.1 | exact hE.2.2 | assumption) (by omega) (by omega) (by first | exact hO.2.1 | exact hE.2.1 | rfl) ?_
        refine VW.iload (pc' := 100) d_Evaluator_groupInto_98 rfl rfl ?_
        refine VW.aload_n (pc' := 101) d_Evaluator_groupInto_100 rfl rfl ?_
        refine VW.iload (pc' := 103) d_Evaluator_groupInto_101 rfl rfl ?_
        refine VW.iload (pc' := 105) d_Evaluator_groupInto_103 rfl rfl ?_
        refine VW.cV (ci := 5) (T := T5) (N := 3) (pc' := 108) d_Evaluator_groupInto_105 rfl mv_Relation_cell lk_Evaluator_135 rfl (by first | exact hO.1 | exact hO.2.2 | exact hE.1 | exact hE.2.2 | assumption) rfl rfl rfl (Nat.le_refl _) (Nat.le_refl _) (sp_Relation_cell hE (by rw [tw]; omega)) rfl rfl ?_
        refine VW.cS (pc' := 111) d_Evaluator_groupInto_108 rfl ms_Evaluator_gathered lk_Evaluator_151 rfl rfl rfl (Nat.le_refl _) (Nat.le_refl _) (sp_Evaluator_gathered r0 r1) rfl rfl ?_
        refine VW.iast (pc' := 112) d_Evaluator_groupInto_111 rfl (by first | exact hO.1 | exact hO.2.2 | exact hE.1 | exact hE.2.2 | assumption) (by omega) (by omega) ?_
        refine VW.iinc (pc' := 115) d_Evaluator_groupInto_112 rfl rfl rfl (by omega) ?_
        refine VW.goto (pc' := 16) d_Evaluator_groupInto_115 rfl ?_
        refine VW.pick [0, 1, 2, 3, 4, 5, 6] ?_
        exact n9
      have t1' : T eo 1 * T eo 2 = ((groupL how A C (L.take k)).length : Int) * 2 := by rw [t1, t2]
      have cel : 0 ≤ A → A < w → nth (rowAt I ci ((k : Int) * (w : Int)) w) A = T ci ((k : Int) * T ei 2 + A) := fun a0 a1 => by rw [nth_rowAt a0 a1, h.2 ci nci nc.symm, tw]
      have fin : ∀ key : Int, key = (if A = -1 then -2147483648 else nth (rowAt I ci ((k : Int) * (w : Int)) w) A) → VW m_Evaluator_groupInto false (rmv 2 120) (exU K P J (.inl none) (fun T => RelR T eo co 2 (groupL how A C L) ∧ ∀ q, q ≠ eo → q ≠ co → T q = I q)) K P J T 0 0 44 [(0, vR (some v)), (1, vR (some eo)), (2, vR (some ei)), (3, vI A), (4, vI how), (5, vI C), (6, vI (k : Int)), (7, vI key)] [] := by
        intro key hkey
        have fsp := fs_spec (fun j => T co (j * 2) = key) (groupL how A C (L.take k)).length 0
        have found : gfI T co key (groupL how A C (L.take k)).length ≠ -1 → VW m_Evaluator_groupInto false (rmv 2 120) (exU K P J (.inl none) (fun T => RelR T eo co 2 (groupL how A C L) ∧ ∀ q, q ≠ eo → q ≠ co → T q = I q)) K P J T 0 0 74 [(0, vR (some v)), (1, vR (some eo)), (2, vR (some ei)), (3, vI A), (4, vI how), (5, vI C), (6, vI (k : Int)), (7, vI key), (8, vI (gfI T co key (groupL how A C (L.take k)).length))] [] := fun z => by
          rcases fsp with y | ⟨y1, y2, y3, y4⟩
          · exact absurd y.1 z
          · obtain ⟨j, hj⟩ : ∃ j : Nat, (j : Int) = gfI T co key (groupL how A C (L.take k)).length := ⟨(gfI T co key (groupL how A C (L.take k)).length).toNat, Int.toNat_of_nonneg y1⟩
            have hj' : (j : Int) = fs (fun j => T co (j * 2) = key) 0 (groupL how A C (L.take k)).length := hj
            rw [← hj'] at y2 y3 y4
            obtain ⟨r, p1, p2, p3⟩ := gr_key h.1 (j := j) (by omega)
            rw [← hj]
            refine mid T _ j key r h (by omega) p1 (p2.trans y3) hkey (fun vv => gUpd_set p1 (fun i r' hi hr' => ?_) (p2.trans y3))
            obtain ⟨r2, s1, s2, s3⟩ := gr_key h.1 (j := i) (by omega)
            rw [hr'] at s1
            cases s1
            rw [s2]
            exact y4 i (by omega) (by omega)
        have new : gfI T co key (groupL how A C (L.take k)).length = -1 → VW m_Evaluator_groupInto false (rmv 2 120) (exU K P J (.inl none) (fun T => RelR T eo co 2 (groupL how A C L) ∧ ∀ q, q ≠ eo → q ≠ co → T q = I q)) K P J (grAdd T eo co key how) 0 0 74 [(0, vR (some v)), (1, vR (some eo)), (2, vR (some ei)), (3, vI A), (4, vI how), (5, vI C), (6, vI (k : Int)), (7, vI key), (8, vI ((groupL how A C (L.take k)).length : Int))] [] := fun z => by
          rcases fsp with y | y
          · have a := grAdd_R (key := key) (how := how) hO.ne h.1
            have all : ∀ r ∈ groupL how A C (L.take k), nth r 0 ≠ key := fun r hm => by
              obtain ⟨i, hi⟩ := List.getElem?_of_mem hm
              obtain ⟨r2, s1, s2, s3⟩ := gr_key h.1 (j := i) (List.getElem?_eq_some_iff.mp hi).1
              rw [hi] at s1
              cases s1
              rw [s2]
              exact y.2 i (by omega) (by have := (List.getElem?_eq_some_iff.mp hi).1; omega)
            refine mid _ _ (groupL how A C (L.take k)).length key [key, gInit how] ⟨a, fun q z1 z2 => (grAdd_o z1 z2).trans (h.2 q z1 z2)⟩ (by rw [List.length_append, List.length_singleton]; omega) (by rw [List.getElem?_append_right (Nat.le_refl _), Nat.sub_self]; rfl) rfl hkey (fun vv => ?_)
            rw [gUpd_new all, List.set_append_right _ _ (Nat.le_refl _), Nat.sub_self]; rfl
          · have z' : fs (fun j => T co (j * 2) = key) 0 (groupL how A C (L.take k)).length = -1 := z
            omega
        have e66 : grAdd T eo co key how eo 1 = T eo 1 + 1 := up2_eq _ _ _ _
        have e67 : T eo 1 + 1 - 1 = ((groupL how A C (L.take k)).length : Int) := by rw [t1]; omega
        clear mid nx ih hr9 fsp
        refine VW.aload_n (pc' := 45) d_Evaluator_groupInto_44 rfl rfl ?_
        refine VW.iload (pc' := 47) d_Evaluator_groupInto_45 rfl rfl ?_
        refine VW.cS (pc' := 50) d_Evaluator_groupInto_47 rfl ms_Evaluator_groupOf lk_Evaluator_147 rfl rfl rfl (Nat.le_refl _) (Nat.le_refl _) (sp_Evaluator_groupOf hO t2 t1 (by omega)) rfl rfl ?_
        refine VW.istore (pc' := 52) d_Evaluator_groupInto_50 rfl rfl ?_
        refine VW.iload (pc' := 54) d_Evaluator_groupInto_52 rfl rfl ?_
        refine VW.iconst (pc' := 55) d_Evaluator_groupInto_54 rfl (by decide) ?_
        refine VW.icmp_ne (tgt := 74) (pc' := 58) d_Evaluator_groupInto_55 rfl rfl (fun c55 => ?_) (fun c55 => ?_)
        · refine VW.pick [0, 1, 2, 3, 4, 5, 6, 7, 8] ?_
          first | exact found c55 | (rw [e67]; exact new c55)
        · refine VW.aload_n (pc' := 59) d_Evaluator_groupInto_58 rfl rfl ?_
          refine VW.iload (pc' := 61) d_Evaluator_groupInto_59 rfl rfl ?_
          refine VW.iload (pc' := 63) d_Evaluator_groupInto_61 rfl rfl ?_
          refine VW.cS (pc' := 66) d_Evaluator_groupInto_63 rfl ms_Evaluator_addGroup lk_Evaluator_143 rfl rfl rfl (Nat.le_refl _) (Nat.le_refl _) (sp_Evaluator_addGroup hO (by rw [t1', t1]; omega)) rfl rfl ?_
          refine VW.aload_n (pc' := 67) d_Evaluator_groupInto_66 rfl rfl ?_
          refine VW.gI (ci := 5) (T := T5) (N := 3) (k := 1) (k' := 1) (pc' := 70) d_Evaluator_groupInto_67 rfl lk_Evaluator_61 in5 rfl rfl rfl rfl (by first | exact hO.1 | exact hO.2.2 | exact hE.1 | exact hE.2.2 | assumption) (e66) ?_
          refine VW.iconst (pc' := 71) d_Evaluator_groupInto_70 rfl (by decide) ?_
          refine VW.isub (pc' := 72) d_Evaluator_groupInto_71 rfl (by omega) ?_
          refine VW.istore (pc' := 74) d_Evaluator_groupInto_72 rfl rfl ?_
          refine VW.pick [0, 1, 2, 3, 4, 5, 6, 7, 8] ?_
          first | exact found c55 | (rw [e67]; exact new c55)
      clear mid nx ih hr9
      refine VW.iload (pc' := 18) d_Evaluator_groupInto_16 rfl rfl ?_
      refine VW.aload_n (pc' := 19) d_Evaluator_groupInto_18 rfl rfl ?_
      refine VW.gI (ci := 5) (T := T5) (N := 3) (k := 1) (k' := 1) (pc' := 22) d_Evaluator_groupInto_19 rfl lk_Evaluator_61 in5 rfl rfl rfl rfl (by first | exact hO.1 | exact hO.2.2 | exact hE.1 | exact hE.2.2 | assumption) (tm) ?_
      refine VW.icmp_ge (tgt := 118) (pc' := 25) d_Evaluator_groupInto_22 rfl rfl (fun c22 => ?_) (fun c22 => ?_)
      · exfalso; omega
      · refine VW.iload_n (pc' := 26) d_Evaluator_groupInto_25 rfl rfl ?_
        refine VW.iconst (pc' := 27) d_Evaluator_groupInto_26 rfl (by decide) ?_
        refine VW.icmp_ne (tgt := 35) (pc' := 30) d_Evaluator_groupInto_27 rfl rfl (fun c27 => ?_) (fun c27 => ?_)
        · refine VW.aload_n (pc' := 36) d_Evaluator_groupInto_35 rfl rfl ?_
          refine VW.iload (pc' := 38) d_Evaluator_groupInto_36 rfl rfl ?_
          refine VW.iload_n (pc' := 39) d_Evaluator_groupInto_38 rfl rfl ?_
          refine VW.cV (ci := 5) (T := T5) (N := 3) (pc' := 42) d_Evaluator_groupInto_39 rfl mv_Relation_cell lk_Evaluator_135 rfl (by first | exact hO.1 | exact hO.2.2 | exact hE.1 | exact hE.2.2 | assumption) rfl rfl rfl (Nat.le_refl _) (Nat.le_refl _) (sp_Relation_cell hE (by rw [tw]; omega)) rfl rfl ?_
          refine VW.istore (pc' := 44) d_Evaluator_groupInto_42 rfl rfl ?_
          refine VW.pick [0, 1, 2, 3, 4, 5, 6, 7] ?_
          first | exact fin _ (if_pos c27).symm | exact fin _ ((cel (by omega) (by omega)).symm.trans (if_neg c27).symm)
        · refine VW.ldc (pc' := 32) (z := -2147483648) d_Evaluator_groupInto_30 rfl lk_Evaluator_103 (by decide) (by decide) ?_
          refine VW.goto (pc' := 42) d_Evaluator_groupInto_32 rfl ?_
          refine VW.istore (pc' := 44) d_Evaluator_groupInto_42 rfl rfl ?_
          refine VW.pick [0, 1, 2, 3, 4, 5, 6, 7] ?_
          first | exact fin _ (if_pos c27).symm | exact fin _ ((cel (by omega) (by omega)).symm.trans (if_neg c27).symm)
  have l0 : A ≠ -1 → VW m_Evaluator_groupInto false (rmv 2 120) (exU K P J (.inl none) (fun T => RelR T eo co 2 (groupL how A C L) ∧ ∀ q, q ≠ eo → q ≠ co → T q = I q)) K P J I 0 0 16 [(0, vR (some v)), (1, vR (some eo)), (2, vR (some ei)), (3, vI A), (4, vI how), (5, vI C), (6, vI 0)] [] := fun z => loop L.length 0 I (by omega) ⟨by
    show RelR I eo co 2 (g0 how A)
    rw [show g0 how A = [] from if_neg z]; exact h0, fun _ _ _ => rfl⟩
  have l1 : A = -1 → VW m_Evaluator_groupInto false (rmv 2 120) (exU K P J (.inl none) (fun T => RelR T eo co 2 (groupL how A C L) ∧ ∀ q, q ≠ eo → q ≠ co → T q = I q)) K P J (grAdd I eo co (-2147483648) how) 0 0 16 [(0, vR (some v)), (1, vR (some eo)), (2, vR (some ei)), (3, vI A), (4, vI how), (5, vI C), (6, vI 0)] [] := fun z => loop L.length 0 _ (by omega) ⟨by
    have a := grAdd_R (key := -2147483648) (how := how) hO.ne h0
    show RelR _ eo co 2 (g0 how A)
    rw [show g0 how A = [[-2147483648, gInit how]] from if_pos z]; exact a, fun q z1 z2 => grAdd_o z1 z2⟩
  have z1 : I eo 1 = 0 := h0.2.1
  have z2 : I eo 2 = 2 := h0.1
  clear loop
  refine VW.iload_n (pc' := 1) d_Evaluator_groupInto_0 rfl rfl ?_
  refine VW.iconst (pc' := 2) d_Evaluator_groupInto_1 rfl (by decide) ?_
  refine VW.icmp_ne (tgt := 13) (pc' := 5) d_Evaluator_groupInto_2 rfl rfl (fun c2 => ?_) (fun c2 => ?_)
  · refine VW.iconst (pc' := 14) d_Evaluator_groupInto_13 rfl (by decide) ?_
    refine VW.istore (pc' := 16) d_Evaluator_groupInto_14 rfl rfl ?_
    refine VW.nrm ?_
    first | exact l0 c2 | exact l1 c2
  · refine VW.aload_n (pc' := 6) d_Evaluator_groupInto_5 rfl rfl ?_
    refine VW.ldc (pc' := 8) (z := -2147483648) d_Evaluator_groupInto_6 rfl lk_Evaluator_103 (by decide) (by decide) ?_
    refine VW.iload (pc' := 10) d_Evaluator_groupInto_8 rfl rfl ?_
    refine VW.cS (pc' := 13) d_Evaluator_groupInto_10 rfl ms_Evaluator_addGroup lk_Evaluator_143 rfl rfl rfl (Nat.le_refl _) (Nat.le_refl _) (sp_Evaluator_addGroup hO (by rw [z1, z2]; decide)) rfl rfl ?_
    refine VW.iconst (pc' := 14) d_Evaluator_groupInto_13 rfl (by decide) ?_
    refine VW.istore (pc' := 16) d_Evaluator_groupInto_14 rfl rfl ?_
    refine VW.nrm ?_
    first | exact l0 c2 | exact l1 c2
end
