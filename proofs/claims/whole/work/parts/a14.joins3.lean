section
variable {K : KT} {P : PT} {J I : IT}
theorem jo_B {v mm eo co el cl er cr wa wb : Nat} {how B C : Int} {L R : List (List Int)} (hJ : JoP K P I v mm eo co el cl er cr wa wb how B C L R) : ∀ (l k : Nat) (T : IT), k + l = L.length → JSc I T eo co mm (jWid how wa wb) (jLeft how B C wb (L.take k) R) → (∀ (i : Nat) y, R[i]? = some y → T mm i = bI (∃ x' ∈ L.take k, mt2 B C x' y)) → VW m_Evaluator_joinInto false (rmv 5 200) (exU K P J (.inl none) (fun T => RelR T eo co (jWid how wa wb) (joinL how B C wa wb L R) ∧ ∀ q, q ≠ eo → q ≠ co → q ≠ mm → T q = I q)) K P J T 0 0 59 [(0, vR (some v)), (1, vR (some eo)), (2, vR (some el)), (3, vR (some er)), (6, vI how), (7, vI B), (8, vI C), (9, vI (k : Int))] [] := by
  obtain ⟨⟨hv, hm, hmk⟩, hA, ⟨hL, hR⟩, ⟨hw, hwa, hwb⟩, ⟨hl5, hr5, hj5⟩, hB, hC⟩ := id hJ
  obtain ⟨hO, hE, hF, n1, n2, n3, n4⟩ := id hA
  obtain ⟨m1, m2, m3, m4, m5⟩ := hA.row
  obtain ⟨p1, p2, p3, p4, p5, p6⟩ := hJ.ne
  intro l
  induction l with
  | zero =>
    intro k T hj h hmt
    have ek : k = L.length := by omega
    subst ek
    rw [List.take_length] at h hmt
    have tl : T el 1 = L.length := by rw [h.2 el n1.symm m1 p3]; exact hL.2.1
    have te : T er 1 = R.length := by rw [h.2 er n3.symm m2 p5]; exact hR.2.1
    have dd : how = 2 → VW m_Evaluator_joinInto false (rmv 5 200) (exU K P J (.inl none) (fun T => RelR T eo co (jWid how wa wb) (joinL how B C wa wb L R) ∧ ∀ q, q ≠ eo → q ≠ co → q ≠ mm → T q = I q)) K P J T 0 0 164 [(0, vR (some v)), (1, vR (some eo)), (2, vR (some el)), (3, vR (some er)), (6, vI how), (7, vI B), (8, vI C), (9, vI 0)] [] := fun z => jo_D hJ R.length 0 T (by omega) z (by rw [List.take_zero]; show JSc I T eo co mm _ (_ ++ []); rw [List.append_nil]; exact h) hmt
    have fin : how ≠ 2 → RelR T eo co (jWid how wa wb) (joinL how B C wa wb L R) ∧ ∀ q, q ≠ eo → q ≠ co → q ≠ mm → T q = I q := fun z => by
      have e : joinL how B C wa wb L R = jLeft how B C wb L R := by unfold joinL jRight; rw [if_neg z, List.append_nil]
      rw [e]
      exact h
    have out : how ≠ 2 → VW m_Evaluator_joinInto false (rmv 5 200) (exU K P J (.inl none) (fun T => RelR T eo co (jWid how wa wb) (joinL how B C wa wb L R) ∧ ∀ q, q ≠ eo → q ≠ co → q ≠ mm → T q = I q)) K P J T 0 0 164 [(0, vR (some v)), (1, vR (some eo)), (2, vR (some el)), (3, vR (some er)), (6, vI how), (7, vI B), (8, vI C), (9, vI 0)] [] := fun z => by
      have f := fin z
      refine VW.iload (pc' := 166) d_Evaluator_joinInto_164 rfl rfl ?_
      refine VW.aload_n (pc' := 167) d_Evaluator_joinInto_166 rfl rfl ?_
      refine VW.gI (ci := 5) (T := T5) (N := 3) (k := 1) (k' := 1) (pc' := 170) d_Evaluator_joinInto_167 rfl lk_Evaluator_61 in5 rfl rfl rfl rfl (by first | exact hO.1 | exact hE.1 | exact hF.1 | assumption) (te) ?_
      refine VW.icmp_ge (tgt := 204) (pc' := 173) d_Evaluator_joinInto_170 rfl rfl (fun c170 => ?_) (fun c170 => ?_)
      · exact VW.vret d_Evaluator_joinInto_204 rfl (Nat.zero_le _) (Nat.zero_le _) (⟨rfl, rfl, rfl, rfl, f⟩)
      · refine VW.iload (pc' := 175) d_Evaluator_joinInto_173 rfl rfl ?_
        refine VW.iconst (pc' := 176) d_Evaluator_joinInto_175 rfl (by decide) ?_
        refine VW.icmp_ne (tgt := 204) (pc' := 179) d_Evaluator_joinInto_176 rfl rfl (fun c176 => ?_) (fun c176 => ?_)
        · exact VW.vret d_Evaluator_joinInto_204 rfl (Nat.zero_le _) (Nat.zero_le _) (⟨rfl, rfl, rfl, rfl, f⟩)
        · exfalso; omega
    have both : VW m_Evaluator_joinInto false (rmv 5 200) (exU K P J (.inl none) (fun T => RelR T eo co (jWid how wa wb) (joinL how B C wa wb L R) ∧ ∀ q, q ≠ eo → q ≠ co → q ≠ mm → T q = I q)) K P J T 0 0 164 [(0, vR (some v)), (1, vR (some eo)), (2, vR (some el)), (3, vR (some er)), (6, vI how), (7, vI B), (8, vI C), (9, vI 0)] [] := by
      by_cases z : how = 2
      · exact dd z
      · exact out z
    refine VW.iload (pc' := 61) d_Evaluator_joinInto_59 rfl rfl ?_
    refine VW.aload_n (pc' := 62) d_Evaluator_joinInto_61 rfl rfl ?_
    refine VW.gI (ci := 5) (T := T5) (N := 3) (k := 1) (k' := 1) (pc' := 65) d_Evaluator_joinInto_62 rfl lk_Evaluator_61 in5 rfl rfl rfl rfl (by first | exact hO.1 | exact hE.1 | exact hF.1 | assumption) (tl) ?_
    refine VW.icmp_ge (tgt := 161) (pc' := 68) d_Evaluator_joinInto_65 rfl rfl (fun c65 => ?_) (fun c65 => ?_)
    · refine VW.iconst (pc' := 162) d_Evaluator_joinInto_161 rfl (by decide) ?_
      refine VW.istore (pc' := 164) d_Evaluator_joinInto_162 rfl rfl ?_
      refine VW.pick [0, 1, 2, 3, 6, 7, 8, 9] ?_
      exact both
    · exfalso; omega
  | succ l ih =>
    intro k T hj h hmt
    have hk := hL.row (k := k) (by omega)
    generalize rowAt I cl ((wa : Int) * (k : Int)) wa = x at hk
    have tl : T el 1 = L.length := by rw [h.2 el n1.symm m1 p3]; exact hL.2.1
    have nx := fun (T : IT) h h' => ih (k + 1) T (by omega) h h'
    rw [show ((k + 1 : Nat) : Int) = (k : Int) + 1 by omega] at nx
    have q := jo_C (J := J) hJ (Q := (exU K P J (.inl none) (fun T => RelR T eo co (jWid how wa wb) (joinL how B C wa wb L R) ∧ ∀ q, q ≠ eo → q ≠ co → q ≠ mm → T q = I q))) hk (fun T1 g1 g2 => by
      have gl : RelR T1 el cl wa L := hL.of (g1.2 el n1.symm m1 p3) (g1.2 cl m3 n2.symm p4)
      have gr : RelR T1 er cr wb R := hR.of (g1.2 er n3.symm m2 p5) (g1.2 cr m4 n4.symm p6)
      have gM := jn_room2 (how := how) (wa := wa) (wb := wb) (B := B) (C := C) (R := R) hk
      have fin := fun (T2 : IT) (hT : RelR T2 eo co (jWid how wa wb) ((jLeft how B C wb (L.take k) R ++ jM how x (flt (mt2 B C x) R)) ++ jT how wb x (flt (mt2 B C x) R).length) ∧ ∀ q, q ≠ eo → q ≠ co → T2 q = T1 q) => nx T2 ⟨by rw [take_snoc hk, jLeft_snoc]; unfold jRow; rw [← List.append_assoc]; exact hT.1, fun q q1 q2 q3 => (hT.2 q q1 q2).trans (g1.2 q q1 q2 q3)⟩ (fun i y z => by rw [hT.2 mm p1.symm p2.symm]; exact g2 i y z)
      refine VW.aload_n (pc' := 144) d_Evaluator_joinInto_143 rfl rfl ?_
      refine VW.aload_n (pc' := 145) d_Evaluator_joinInto_144 rfl rfl ?_
      refine VW.iload (pc' := 147) d_Evaluator_joinInto_145 rfl rfl ?_
      refine VW.aload_n (pc' := 148) d_Evaluator_joinInto_147 rfl rfl ?_
      refine VW.iload (pc' := 150) d_Evaluator_joinInto_148 rfl rfl ?_
      refine VW.iload (pc' := 152) d_Evaluator_joinInto_150 rfl rfl ?_
      refine VW.cSu (pc' := 155) d_Evaluator_joinInto_152 rfl ms_Evaluator_addLeft lk_Evaluator_166 rfl rfl rfl (Nat.le_refl _) (Nat.le_refl _) (sp_Evaluator_addLeft hA gl gr g1.1 hw hk hl5 rfl (by omega)) rfl rfl (fun T2 h2 => ?_)
      refine VW.iinc (pc' := 158) d_Evaluator_joinInto_155 rfl rfl rfl (by omega) ?_
      refine VW.goto (pc' := 59) d_Evaluator_joinInto_158 rfl ?_
      refine VW.pick [0, 1, 2, 3, 6, 7, 8, 9] ?_
      exact fin T2 h2) R.length 0 T 1 (by omega) (by rw [List.take_zero]; rfl) (by
      rw [List.take_zero]
      show JSc I T eo co mm _ (_ ++ jM how x [])
      rw [show jM how x [] = [] by unfold jM; split <;> rfl, List.append_nil]
      exact h) (fun i y z => by
      rw [hmt i y z]
      congr 1
      exact propext ⟨Or.inl, fun w => w.elim id (fun w => absurd w.1 (by omega))⟩)
    clear nx ih
    refine VW.iload (pc' := 61) d_Evaluator_joinInto_59 rfl rfl ?_
    refine VW.aload_n (pc' := 62) d_Evaluator_joinInto_61 rfl rfl ?_
    refine VW.gI (ci := 5) (T := T5) (N := 3) (k := 1) (k' := 1) (pc' := 65) d_Evaluator_joinInto_62 rfl lk_Evaluator_61 in5 rfl rfl rfl rfl (by first | exact hO.1 | exact hE.1 | exact hF.1 | assumption) (tl) ?_
    refine VW.icmp_ge (tgt := 161) (pc' := 68) d_Evaluator_joinInto_65 rfl rfl (fun c65 => ?_) (fun c65 => ?_)
    · exfalso; omega
    · refine VW.iconst (pc' := 69) d_Evaluator_joinInto_68 rfl (by decide) ?_
      refine VW.istore (pc' := 71) d_Evaluator_joinInto_69 rfl rfl ?_
      refine VW.iconst (pc' := 72) d_Evaluator_joinInto_71 rfl (by decide) ?_
      refine VW.istore (pc' := 74) d_Evaluator_joinInto_72 rfl rfl ?_
      refine VW.pick [0, 1, 2, 3, 6, 7, 8, 9, 10, 11] ?_
      exact q
theorem sp_Evaluator_joinInto {v mm eo co el cl er cr wa wb : Nat} {how B C : Int} {L R : List (List Int)} (hJ : JoP K P I v mm eo co el cl er cr wa wb how B C L R) {qn : Nat} {op : Int} (hQ : QuW K P qn) (hop : 0 ≤ op ∧ op < 12) (e0 : I (qn + 4) (op * 4 + 0) = how) (e1 : I (qn + 4) (op * 4 + 1) = B) (e2 : I (qn + 4) (op * 4 + 2) = C) (h0 : RelR I eo co (jWid how wa wb) []) : Sp m_Evaluator_joinInto false (rmv 5 200) (exU K P J (.inl none) (fun T => RelR T eo co (jWid how wa wb) (joinL how B C wa wb L R) ∧ ∀ q, q ≠ eo → q ≠ co → q ≠ mm → T q = I q)) K P J I [vR (some v), vR (some eo), vR (some el), vR (some er), vR (some qn), vI op] := by
  refine Sp.ofV (by decide) (Or.inr rfl) rfl ?_
  obtain ⟨⟨hv, hm, hmk⟩, hA, ⟨hL, hR⟩, ⟨hw, hwa, hwb⟩, ⟨hl5, hr5, hj5⟩, hB, hC⟩ := id hJ
  obtain ⟨hO, hE, hF, n1, n2, n3, n4⟩ := id hA
  obtain ⟨m1, m2, m3, m4, m5⟩ := hA.row
  obtain ⟨p1, p2, p3, p4, p5, p6⟩ := hJ.ne
  have r1 := hR.2.1
  have start : ∀ T : IT, (∀ q, q ≠ mm → T q = I q) → (∀ i : Nat, i < R.length → T mm i = 0) → VW m_Evaluator_joinInto false (rmv 5 200) (exU K P J (.inl none) (fun T => RelR T eo co (jWid how wa wb) (joinL how B C wa wb L R) ∧ ∀ q, q ≠ eo → q ≠ co → q ≠ mm → T q = I q)) K P J T 0 0 59 [(0, vR (some v)), (1, vR (some eo)), (2, vR (some el)), (3, vR (some er)), (6, vI how), (7, vI B), (8, vI C), (9, vI 0)] [] := fun T h1 h2 => jo_B hJ L.length 0 T (by omega) ⟨by rw [List.take_zero]; exact h0.of (h1 eo p1) (h1 co p2), fun q _ _ q3 => h1 q q3⟩ (fun i y z => by
    rw [h2 i (List.getElem?_eq_some_iff.mp z).1]
    exact (bI0 (fun ⟨x, a, _⟩ => by rw [List.take_zero] at a; cases a)).symm)
  have loop : ∀ (l j : Nat) (T : IT), j + l = R.length → (∀ q, q ≠ mm → T q = I q) → (∀ i : Nat, i < j → T mm i = 0) → VW m_Evaluator_joinInto false (rmv 5 200) (exU K P J (.inl none) (fun T => RelR T eo co (jWid how wa wb) (joinL how B C wa wb L R) ∧ ∀ q, q ≠ eo → q ≠ co → q ≠ mm → T q = I q)) K P J T 0 0 33 [(0, vR (some v)), (1, vR (some eo)), (2, vR (some el)), (3, vR (some er)), (6, vI how), (7, vI B), (8, vI C), (9, vI (j : Int))] [] := by
    intro l
    induction l with
    | zero =>
      intro j T hj h1 h2
      have ej : j = R.length := by omega
      subst ej
      have te : T er 1 = R.length := by rw [h1 er p5]; exact r1
      have s := start T h1 h2
      refine VW.iload (pc' := 35) d_Evaluator_joinInto_33 rfl rfl ?_
      refine VW.aload_n (pc' := 36) d_Evaluator_joinInto_35 rfl rfl ?_
      refine VW.gI (ci := 5) (T := T5) (N := 3) (k := 1) (k' := 1) (pc' := 39) d_Evaluator_joinInto_36 rfl lk_Evaluator_61 in5 rfl rfl rfl rfl (by first | exact hO.1 | exact hE.1 | exact hF.1 | assumption) (te) ?_
      refine VW.icmp_ge (tgt := 56) (pc' := 42) d_Evaluator_joinInto_39 rfl rfl (fun c39 => ?_) (fun c39 => ?_)
      · refine VW.iconst (pc' := 57) d_Evaluator_joinInto_56 rfl (by decide) ?_
        refine VW.istore (pc' := 59) d_Evaluator_joinInto_57 rfl rfl ?_
        refine VW.pick [0, 1, 2, 3, 6, 7, 8, 9] ?_
        exact s
      · exfalso; omega
    | succ l ih =>
      intro j T hj h1 h2
      have te : T er 1 = R.length := by rw [h1 er p5]; exact r1
      have s := ih (j + 1) (up2 T mm (j : Int) 0) (by omega) (fun q z => (funext (fun y => up2_o _ _ _ _ z)).trans (h1 q z)) (fun i hi => by
        by_cases e : i = j
        · rw [e, up2_eq]
        · rw [up2_k _ _ _ _ (by omega)]; exact h2 i (by omega))
      rw [show ((j + 1 : Nat) : Int) = (j : Int) + 1 by omega] at s
      clear ih start
      refine VW.iload (pc' := 35) d_Evaluator_joinInto_33 rfl rfl ?_
      refine VW.aload_n (pc' := 36) d_Evaluator_joinInto_35 rfl rfl ?_
      refine VW.gI (ci := 5) (T := T5) (N := 3) (k := 1) (k' := 1) (pc' := 39) d_Evaluator_joinInto_36 rfl lk_Evaluator_61 in5 rfl rfl rfl rfl (by first | exact hO.1 | exact hE.1 | exact hF.1 | assumption) (te) ?_
      refine VW.icmp_ge (tgt := 56) (pc' := 42) d_Evaluator_joinInto_39 rfl rfl (fun c39 => ?_) (fun c39 => ?_)
      · exfalso; omega
      · refine VW.aload_n (pc' := 43) d_Evaluator_joinInto_42 rfl rfl ?_
        refine VW.gP (ci := 1) (T := T1) (N := 7) (k := 4) (k' := 4) (pc' := 46) d_Evaluator_joinInto_43 rfl lk_Evaluator_24 in1 rfl rfl rfl rfl (by first | exact hO.1 | exact hE.1 | exact hF.1 | assumption) (by first | exact hm | rfl) ?_
        refine VW.iload (pc' := 48) d_Evaluator_joinInto_46 rfl rfl ?_
        refine VW.iconst (pc' := 49) d_Evaluator_joinInto_48 rfl (by decide) ?_
        refine VW.zast (pc' := 50) d_Evaluator_joinInto_49 rfl (by first | exact hO.1 | exact hE.1 | exact hF.1 | assumption) (by omega) (by omega) (by decide) ?_
        refine VW.iinc (pc' := 53) d_Evaluator_joinInto_50 rfl rfl rfl (by omega) ?_
        refine VW.goto (pc' := 33) d_Evaluator_joinInto_53 rfl ?_
        refine VW.pick [0, 1, 2, 3, 6, 7, 8, 9] ?_
        exact s
  have l := loop R.length 0 I (by omega) (fun _ _ => rfl) (fun i h => by omega)
  clear loop start
  refine VW.aload (pc' := 2) d_Evaluator_joinInto_0 rfl rfl ?_
  refine VW.iload (pc' := 4) d_Evaluator_joinInto_2 rfl rfl ?_
  refine VW.iconst (pc' := 5) d_Evaluator_joinInto_4 rfl (by decide) ?_
  refine VW.cV (ci := 4) (T := T4) (N := 13) (pc' := 8) d_Evaluator_joinInto_5 rfl mv_Query_parameter lk_Evaluator_74 rfl (by first | exact hQ.k | assumption) rfl rfl rfl (Nat.le_refl _) (Nat.le_refl _) (sp_Query_parameter hQ hop (by decide)) rfl rfl ?_
  rw [e0]
  refine VW.istore (pc' := 10) d_Evaluator_joinInto_8 rfl rfl ?_
  refine VW.aload (pc' := 12) d_Evaluator_joinInto_10 rfl rfl ?_
  refine VW.iload (pc' := 14) d_Evaluator_joinInto_12 rfl rfl ?_
  refine VW.iconst (pc' := 15) d_Evaluator_joinInto_14 rfl (by decide) ?_
  refine VW.cV (ci := 4) (T := T4) (N := 13) (pc' := 18) d_Evaluator_joinInto_15 rfl mv_Query_parameter lk_Evaluator_74 rfl (by first | exact hQ.k | assumption) rfl rfl rfl (Nat.le_refl _) (Nat.le_refl _) (sp_Query_parameter hQ hop (by decide)) rfl rfl ?_
  rw [e1]
  refine VW.istore (pc' := 20) d_Evaluator_joinInto_18 rfl rfl ?_
  refine VW.aload (pc' := 22) d_Evaluator_joinInto_20 rfl rfl ?_
  refine VW.iload (pc' := 24) d_Evaluator_joinInto_22 rfl rfl ?_
  refine VW.iconst (pc' := 25) d_Evaluator_joinInto_24 rfl (by decide) ?_
  refine VW.cV (ci := 4) (T := T4) (N := 13) (pc' := 28) d_Evaluator_joinInto_25 rfl mv_Query_parameter lk_Evaluator_74 rfl (by first | exact hQ.k | assumption) rfl rfl rfl (Nat.le_refl _) (Nat.le_refl _) (sp_Query_parameter hQ hop (by decide)) rfl rfl ?_
  rw [e2]
  refine VW.istore (pc' := 30) d_Evaluator_joinInto_28 rfl rfl ?_
  refine VW.iconst (pc' := 31) d_Evaluator_joinInto_30 rfl (by decide) ?_
  refine VW.istore (pc' := 33) d_Evaluator_joinInto_31 rfl rfl ?_
  refine VW.pick [0, 1, 2, 3, 6, 7, 8, 9] ?_
  exact l
end
