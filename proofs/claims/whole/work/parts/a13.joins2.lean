section
variable {K : KT} {P : PT} {J I : IT}
def JSc (I T : IT) (eo co mm w : Nat) (M : List (List Int)) : Prop := RelR T eo co w M ∧ ∀ q, q ≠ eo → q ≠ co → q ≠ mm → T q = I q
theorem JSc.mm {T : IT} {eo co mm w : Nat} {M : List (List Int)} {j z : Int} (h : JSc I T eo co mm w M) (h1 : eo ≠ mm) (h2 : co ≠ mm) : JSc I (up2 T mm j z) eo co mm w M := ⟨h.1.of (funext (fun y => up2_o _ _ _ _ h1)) (funext (fun y => up2_o _ _ _ _ h2)), fun q q1 q2 q3 => (funext (fun y => up2_o _ _ _ _ q3)).trans (h.2 q q1 q2 q3)⟩
/-- all that a join stands on -/
def JoP (K : KT) (P : PT) (I : IT) (v mm eo co el cl er cr wa wb : Nat) (how B C : Int) (L R : List (List Int)) : Prop := (K v = some (1, 0) ∧ P v 4 = some mm ∧ K mm = some (101, 512)) ∧ ReT K P eo co el cl er cr ∧ (RelR I el cl wa L ∧ RelR I er cr wb R) ∧ (jWid how wa wb ≤ 10 ∧ wa ≤ 10 ∧ wb ≤ 10) ∧ (L.length ≤ 512 ∧ R.length ≤ 512 ∧ (joinL how B C wa wb L R).length ≤ 512) ∧ (0 ≤ B ∧ B < wa) ∧ (0 ≤ C ∧ C < wb)
theorem JoP.ne {v mm eo co el cl er cr wa wb : Nat} {how B C : Int} {L R : List (List Int)} (h : JoP K P I v mm eo co el cl er cr wa wb how B C L R) : (eo ≠ mm ∧ co ≠ mm ∧ el ≠ mm ∧ cl ≠ mm ∧ er ≠ mm ∧ cr ≠ mm) := by
  obtain ⟨⟨h1, h2, h3⟩, ⟨a, b, c, -⟩, -⟩ := h
  refine ⟨fun z => ?_, fun z => ?_, fun z => ?_, fun z => ?_, fun z => ?_, fun z => ?_⟩
  · have := a.1.symm.trans (z ▸ h3); cases this
  · have := a.2.2.symm.trans (z ▸ h3); cases this
  · have := b.1.symm.trans (z ▸ h3); cases this
  · have := b.2.2.symm.trans (z ▸ h3); cases this
  · have := c.1.symm.trans (z ▸ h3); cases this
  · have := c.2.2.symm.trans (z ▸ h3); cases this
theorem jo_D {v mm eo co el cl er cr wa wb : Nat} {how B C : Int} {L R : List (List Int)} (hJ : JoP K P I v mm eo co el cl er cr wa wb how B C L R) : ∀ (l j : Nat) (T : IT), j + l = R.length → how = 2 → JSc I T eo co mm (jWid how wa wb) (jLeft how B C wb L R ++ (flt (fun y => ¬ ∃ x ∈ L, mt2 B C x y) (R.take j)).map (fun y => nul wa ++ y)) → (∀ (i : Nat) y, R[i]? = some y → T mm i = bI (∃ x ∈ L, mt2 B C x y)) → VW m_Evaluator_joinInto false (rmv 5 200) (exU K P J (.inl none) (fun T => RelR T eo co (jWid how wa wb) (joinL how B C wa wb L R) ∧ ∀ q, q ≠ eo → q ≠ co → q ≠ mm → T q = I q)) K P J T 0 0 164 [(0, vR (some v)), (1, vR (some eo)), (2, vR (some el)), (3, vR (some er)), (6, vI how), (7, vI B), (8, vI C), (9, vI (j : Int))] [] := by
  obtain ⟨⟨hv, hm, hmk⟩, hA, ⟨hL, hR⟩, ⟨hw, hwa, hwb⟩, ⟨hl5, hr5, hj5⟩, hB, hC⟩ := id hJ
  obtain ⟨hO, hE, hF, n1, n2, n3, n4⟩ := id hA
  obtain ⟨m1, m2, m3, m4, m5⟩ := hA.row
  obtain ⟨p1, p2, p3, p4, p5, p6⟩ := hJ.ne
  intro l
  induction l with
  | zero =>
    intro j T hj h2 h hmt
    have ej : j = R.length := by omega
    subst ej
    have te : T er 1 = R.length := by rw [h.2 er n3.symm m2 p5]; exact hR.2.1
    have fin : RelR T eo co (jWid how wa wb) (joinL how B C wa wb L R) ∧ ∀ q, q ≠ eo → q ≠ co → q ≠ mm → T q = I q := by
      have e : joinL how B C wa wb L R = jLeft how B C wb L R ++ (flt (fun y => ¬ ∃ x ∈ L, mt2 B C x y) R).map (fun y => nul wa ++ y) := by unfold joinL jRight; rw [if_pos h2]
      rw [e]
      have h' := h
      unfold JSc at h'
      rw [List.take_length] at h'
      exact h'
    refine VW.iload (pc' := 166) d_Evaluator_joinInto_164 rfl rfl ?_
    refine VW.aload_n (pc' := 167) d_Evaluator_joinInto_166 rfl rfl ?_
    refine VW.gI (ci := 5) (T := T5) (N := 3) (k := 1) (k' := 1) (pc' := 170) d_Evaluator_joinInto_167 rfl lk_Evaluator_61 in5 rfl rfl rfl rfl (by first | exact hO.1 | exact hE.1 | exact hF.1 | assumption) (te) ?_
    refine VW.icmp_ge (tgt := 204) (pc' := 173) d_Evaluator_joinInto_170 rfl rfl (fun c170 => ?_) (fun c170 => ?_)
    · exact VW.vret d_Evaluator_joinInto_204 rfl (Nat.zero_le _) (Nat.zero_le _) (⟨rfl, rfl, rfl, rfl, fin⟩)
    · exfalso; omega
  | succ l ih =>
    intro j T hj h2 h hmt
    have te : T er 1 = R.length := by rw [h.2 er n3.symm m2 p5]; exact hR.2.1
    have hy := hR.row (k := j) (by omega)
    have hx : rpRow T cr wb (j : Int) = _ := rpRow_at hR (h.2 cr m4 n4.symm p6) hy
    have mt := hmt j _ hy
    have hmt' : ∀ (i : Nat) y, R[i]? = some y → rePair T eo co el cl er cr (-1) (j : Int) mm i = bI (∃ x ∈ L, mt2 B C x y) := fun i y z => by rw [rePair_o p1.symm p2.symm]; exact hmt i y z
    have nx := fun (T : IT) h h' => ih (j + 1) T (by omega) h2 h h'
    rw [take_snoc hy, show ((j + 1 : Nat) : Int) = (j : Int) + 1 by omega] at nx
    have b01 : T mm j = 0 ∨ T mm j = 1 := by rw [mt]; exact bI_01 _
    have jw : (jWid how wa wb) = wa + wb := if_pos (by omega)
    have l2 : T el 2 = wa := by rw [h.2 el n1.symm m1 p3]; exact hL.1
    have r2 : T er 2 = wb := by rw [h.2 er n3.symm m2 p5]; exact hR.1
    have sk : T mm j ≠ 0 → VW m_Evaluator_joinInto false (rmv 5 200) (exU K P J (.inl none) (fun T => RelR T eo co (jWid how wa wb) (joinL how B C wa wb L R) ∧ ∀ q, q ≠ eo → q ≠ co → q ≠ mm → T q = I q)) K P J T 0 0 164 [(0, vR (some v)), (1, vR (some eo)), (2, vR (some el)), (3, vR (some er)), (6, vI how), (7, vI B), (8, vI C), (9, vI ((j : Int) + 1))] [] := fun z => by
      refine nx T ?_ hmt
      rw [flt_no (fun y => y (Classical.byContradiction (fun q => z (by rw [mt]; exact bI0 q))))]
      exact h
    have no : T mm j = 0 → ¬ ∃ x ∈ L, mt2 B C x _ := fun z y => by rw [mt, bI1 y] at z; cases z
    have ad : T mm j = 0 → VW m_Evaluator_joinInto false (rmv 5 200) (exU K P J (.inl none) (fun T => RelR T eo co (jWid how wa wb) (joinL how B C wa wb L R) ∧ ∀ q, q ≠ eo → q ≠ co → q ≠ mm → T q = I q)) K P J (rePair T eo co el cl er cr (-1) (j : Int)) 0 0 164 [(0, vR (some v)), (1, vR (some eo)), (2, vR (some el)), (3, vR (some er)), (6, vI how), (7, vI B), (8, vI C), (9, vI ((j : Int) + 1))] [] := fun z => by
      refine nx _ ?_ hmt'
      rw [flt_yes (no z), List.map_append, ← List.append_assoc]
      have h1 := h.1
      rw [jw] at h1 ⊢
      have r := rePair_R (f := el) (d := cl) (g := er) (h := cr) (y := -1) (z := (j : Int)) m5 m1 m2 n4.symm h1 l2 r2
      rw [hx, rpRow_nul] at r
      exact ⟨r, fun q q1 q2 q3 => (rePair_o q1 q2).trans (h.2 q q1 q2 q3)⟩
    have rm := fun z => reRoom h.1 hw (by have := jn_room3 (wb := wb) (wa := wa) h2 hy (no z); omega)
    have wj : T eo 2 = T el 2 + T er 2 := by rw [h.1.1, l2, r2, jw]; omega
    have mj := relMul (w := wb) (m := j) hwb (by omega)
    clear nx ih hmt hmt'
    refine VW.iload (pc' := 166) d_Evaluator_joinInto_164 rfl rfl ?_
    refine VW.aload_n (pc' := 167) d_Evaluator_joinInto_166 rfl rfl ?_
    refine VW.gI (ci := 5) (T := T5) (N := 3) (k := 1) (k' := 1) (pc' := 170) d_Evaluator_joinInto_167 rfl lk_Evaluator_61 in5 rfl rfl rfl rfl (by first | exact hO.1 | exact hE.1 | exact hF.1 | assumption) (te) ?_
    refine VW.icmp_ge (tgt := 204) (pc' := 173) d_Evaluator_joinInto_170 rfl rfl (fun c170 => ?_) (fun c170 => ?_)
    case refine_1 => exact absurd c170 (by omega)
    refine VW.iload (pc' := 175) d_Evaluator_joinInto_173 rfl rfl ?_
    refine VW.iconst (pc' := 176) d_Evaluator_joinInto_175 rfl (by decide) ?_
    refine VW.icmp_ne (tgt := 204) (pc' := 179) d_Evaluator_joinInto_176 rfl rfl (fun c176 => ?_) (fun c176 => ?_)
    case refine_1 => exact absurd c176 (by omega)
    refine VW.aload_n (pc' := 180) d_Evaluator_joinInto_179 rfl rfl ?_
    refine VW.gP (ci := 1) (T := T1) (N := 7) (k := 4) (k' := 4) (pc' := 183) d_Evaluator_joinInto_180 rfl lk_Evaluator_24 in1 rfl rfl rfl rfl (by first | exact hO.1 | exact hE.1 | exact hF.1 | assumption) (by first | exact hm | rfl) ?_
    refine VW.iload (pc' := 185) d_Evaluator_joinInto_183 rfl rfl ?_
    refine VW.zld (pc' := 186) d_Evaluator_joinInto_185 rfl (by first | exact hO.1 | exact hE.1 | exact hF.1 | assumption) (by omega) (by omega) (by first | exact hm | rfl) ?_
    refine VW.if_ne (tgt := 198) (pc' := 189) d_Evaluator_joinInto_186 rfl rfl (fun c186 => ?_) (fun c186 => ?_)
    · try have e186 := bIn c186
      refine VW.iinc (pc' := 201) d_Evaluator_joinInto_198 rfl rfl rfl (by omega) ?_
      refine VW.goto (pc' := 164) d_Evaluator_joinInto_201 rfl ?_
      refine VW.pick [0, 1, 2, 3, 6, 7, 8, 9] ?_
      first | exact sk c186 | exact ad c186
    · try have e186 := bIe c186
      refine VW.aload_n (pc' := 190) d_Evaluator_joinInto_189 rfl rfl ?_
      refine VW.aload_n (pc' := 191) d_Evaluator_joinInto_190 rfl rfl ?_
      refine VW.iconst (pc' := 192) d_Evaluator_joinInto_191 rfl (by decide) ?_
      refine VW.aload_n (pc' := 193) d_Evaluator_joinInto_192 rfl rfl ?_
      refine VW.iload (pc' := 195) d_Evaluator_joinInto_193 rfl rfl ?_
      have q2 := no c186
      have rm2 := rm c186
      refine VW.cV (ci := 5) (T := T5) (N := 3) (pc' := 198) d_Evaluator_joinInto_195 rfl mv_Relation_addPair lk_Evaluator_162 rfl (by first | exact hO.1 | exact hE.1) rfl rfl rfl (Nat.le_refl _) (Nat.le_refl _) (sp_Relation_addPair hO hE hF rm2.1 (by rw [l2, r2]; rw [l2, r2] at wj; omega) (fun z => absurd rfl z) (by rw [r2]; intro; omega)) rfl rfl ?_
      refine VW.iinc (pc' := 201) d_Evaluator_joinInto_198 rfl rfl rfl (by omega) ?_
      refine VW.goto (pc' := 164) d_Evaluator_joinInto_201 rfl ?_
      refine VW.pick [0, 1, 2, 3, 6, 7, 8, 9] ?_
      first | exact sk c186 | exact ad c186
theorem jo_C {v mm eo co el cl er cr wa wb : Nat} {how B C : Int} {L R : List (List Int)} (hJ : JoP K P I v mm eo co el cl er cr wa wb how B C L R) {Q : PQ} {k : Nat} {x : List Int} (hk : L[k]? = some x) (hQ : ∀ T : IT, JSc I T eo co mm (jWid how wa wb) (jLeft how B C wb (L.take k) R ++ jM how x (flt (mt2 B C x) R)) → (∀ (i : Nat) y, R[i]? = some y → T mm i = bI (∃ x' ∈ L.take (k + 1), mt2 B C x' y)) → VW m_Evaluator_joinInto false (rmv 5 200) Q K P J T 0 0 143 [(0, vR (some v)), (1, vR (some eo)), (2, vR (some el)), (3, vR (some er)), (6, vI how), (7, vI B), (8, vI C), (9, vI (k : Int)), (10, vI (if (flt (mt2 B C x) R).length = 0 then 1 else 0))] []) : ∀ (l j : Nat) (T : IT) (al : Int), j + l = R.length → al = (if (flt (mt2 B C x) (R.take j)).length = 0 then 1 else 0) → JSc I T eo co mm (jWid how wa wb) (jLeft how B C wb (L.take k) R ++ jM how x (flt (mt2 B C x) (R.take j))) → (∀ (i : Nat) y, R[i]? = some y → T mm i = bI ((∃ x' ∈ L.take k, mt2 B C x' y) ∨ (i < j ∧ mt2 B C x y))) → VW m_Evaluator_joinInto false (rmv 5 200) Q K P J T 0 0 74 [(0, vR (some v)), (1, vR (some eo)), (2, vR (some el)), (3, vR (some er)), (6, vI how), (7, vI B), (8, vI C), (9, vI (k : Int)), (10, vI al), (11, vI (j : Int))] [] := by
  obtain ⟨⟨hv, hm, hmk⟩, hA, ⟨hL, hR⟩, ⟨hw, hwa, hwb⟩, ⟨hl5, hr5, hj5⟩, hB, hC⟩ := id hJ
  obtain ⟨hO, hE, hF, n1, n2, n3, n4⟩ := id hA
  obtain ⟨m1, m2, m3, m4, m5⟩ := hA.row
  obtain ⟨p1, p2, p3, p4, p5, p6⟩ := hJ.ne
  have kl := (List.getElem?_eq_some_iff.mp hk).1
  have mk := relMul (w := wa) (m := k) hwa (by omega)
  have hx0 := hL.row kl
  rw [hk] at hx0
  intro l
  induction l with
  | zero =>
    intro j T al hj hal h hmt
    have ej : j = R.length := by omega
    subst ej
    have te : T er 1 = R.length := by rw [h.2 er n3.symm m2 p5]; exact hR.2.1
    rw [List.take_length] at hal h
    have q := hQ T h (fun i y z => by
      rw [hmt i y z, take_snoc hk]
      have il := (List.getElem?_eq_some_iff.mp z).1
      congr 1
      refine propext ⟨fun w => w.elim (fun ⟨x', a, b⟩ => ⟨x', List.mem_append_left _ a, b⟩) (fun w => ⟨x, List.mem_append_right _ (List.mem_singleton.mpr rfl), w.2⟩), fun ⟨x', a, b⟩ => (List.mem_append.mp a).elim (fun a => Or.inl ⟨x', a, b⟩) (fun a => Or.inr ⟨il, by rw [← List.mem_singleton.mp a]; exact b⟩)⟩)
    rw [← hal] at q
    refine VW.iload (pc' := 76) d_Evaluator_joinInto_74 rfl rfl ?_
    refine VW.aload_n (pc' := 77) d_Evaluator_joinInto_76 rfl rfl ?_
    refine VW.gI (ci := 5) (T := T5) (N := 3) (k := 1) (k' := 1) (pc' := 80) d_Evaluator_joinInto_77 rfl lk_Evaluator_61 in5 rfl rfl rfl rfl (by first | exact hO.1 | exact hE.1 | exact hF.1 | assumption) (te) ?_
    refine VW.icmp_ge (tgt := 143) (pc' := 83) d_Evaluator_joinInto_80 rfl rfl (fun c80 => ?_) (fun c80 => ?_)
    · refine VW.pick [0, 1, 2, 3, 6, 7, 8, 9, 10] ?_
      exact q
    · exfalso; omega
  | succ l ih =>
    intro j T al hj hal h hmt
    have te : T er 1 = R.length := by rw [h.2 er n3.symm m2 p5]; exact hR.2.1
    have hy := hR.row (k := j) (by omega)
    have l2 : T el 2 = wa := by rw [h.2 el n1.symm m1 p3]; exact hL.1
    have r2 : T er 2 = wb := by rw [h.2 er n3.symm m2 p5]; exact hR.1
    have tcl := h.2 cl m3 n2.symm p4
    have tcr := h.2 cr m4 n4.symm p6
    have mj := relMul (w := wb) (m := j) hwb (by omega)
    have cx : nth x B = T cl ((k : Int) * T el 2 + B) := by
      rw [Option.some.inj hx0, nth_rowAt hB.1 hB.2, tcl, l2, Int.mul_comm]
    have cy : ∀ y, R[j]? = some y → nth y C = T cr ((j : Int) * T er 2 + C) := fun y hy' => by
      rw [hy] at hy'
      cases hy'
      rw [nth_rowAt hC.1 hC.2, tcr, r2, Int.mul_comm]
    generalize hyy : rowAt I cr ((wb : Int) * (j : Int)) wb = y at hy
    have mt : mt2 B C x y ↔ cmp3 (T cl ((k : Int) * T el 2 + B)) 1 (T cr ((j : Int) * T er 2 + C)) = 1 := by
      unfold mt2
      rw [cx, cy y hy]
    have k1 : ((j + 1 : Nat) : Int) = (j : Int) + 1 := by omega
    have sk : cmp3 (T cl ((k : Int) * T el 2 + B)) 1 (T cr ((j : Int) * T er 2 + C)) ≠ 1 → VW m_Evaluator_joinInto false (rmv 5 200) Q K P J T 0 0 74 [(0, vR (some v)), (1, vR (some eo)), (2, vR (some el)), (3, vR (some er)), (6, vI how), (7, vI B), (8, vI C), (9, vI (k : Int)), (10, vI al), (11, vI ((j : Int) + 1))] [] := fun z => by
      have z' : ¬ mt2 B C x y := fun w => z (mt.mp w)
      have q := ih (j + 1) T al (by omega) (by rw [take_snoc hy, flt_no z']; exact hal) (by rw [take_snoc hy, flt_no z']; exact h) (fun i y' w => by
        rw [hmt i y' w]
        congr 1
        refine propext ⟨fun w2 => w2.elim Or.inl (fun w2 => Or.inr ⟨by omega, w2.2⟩), fun w2 => w2.elim Or.inl (fun w2 => Or.inr ⟨?_, w2.2⟩)⟩
        by_cases e : i = j
        · subst e
          rw [hy] at w
          cases w
          exact absurd w2.2 z'
        · omega)
      rw [k1] at q; exact q
    have mset : cmp3 (T cl ((k : Int) * T el 2 + B)) 1 (T cr ((j : Int) * T er 2 + C)) = 1 → ∀ (S : IT), (∀ q, S mm q = up2 T mm (j : Int) 1 mm q) → ∀ (i : Nat) y', R[i]? = some y' → S mm i = bI ((∃ x' ∈ L.take k, mt2 B C x' y') ∨ (i < j + 1 ∧ mt2 B C x y')) := fun z S hS i y' w => by
      rw [hS]
      by_cases e : i = j
      · subst e
        rw [hy] at w
        cases w
        rw [up2_eq]
        exact (bI1 (Or.inr ⟨by omega, mt.mpr z⟩)).symm
      · rw [up2_k _ _ _ _ (by omega), hmt i y' w]
        congr 1
        exact propext ⟨fun w2 => w2.elim Or.inl (fun w2 => Or.inr ⟨by omega, w2.2⟩), fun w2 => w2.elim Or.inl (fun w2 => Or.inr ⟨by omega, w2.2⟩)⟩
    have al0 : cmp3 (T cl ((k : Int) * T el 2 + B)) 1 (T cr ((j : Int) * T er 2 + C)) = 1 → (0 : Int) = (if (flt (mt2 B C x) (R.take (j + 1))).length = 0 then 1 else 0) := fun z => by
      rw [take_snoc hy, flt_yes (mt.mpr z), List.length_append, List.length_singleton, if_neg (by omega)]
    have big : cmp3 (T cl ((k : Int) * T el 2 + B)) 1 (T cr ((j : Int) * T er 2 + C)) = 1 → ¬ how ≤ 2 → VW m_Evaluator_joinInto false (rmv 5 200) Q K P J (up2 T mm (j : Int) 1) 0 0 74 [(0, vR (some v)), (1, vR (some eo)), (2, vR (some el)), (3, vR (some er)), (6, vI how), (7, vI B), (8, vI C), (9, vI (k : Int)), (10, vI 0), (11, vI ((j : Int) + 1))] [] := fun z z2 => by
      have q := ih (j + 1) (up2 T mm (j : Int) 1) 0 (by omega) (al0 z) (by
        rw [take_snoc hy, flt_yes (mt.mpr z), jM_no z2]
        exact h.mm p1 p2) (mset z _ (fun _ => rfl))
      rw [k1] at q; exact q
    have small : cmp3 (T cl ((k : Int) * T el 2 + B)) 1 (T cr ((j : Int) * T er 2 + C)) = 1 → how ≤ 2 → VW m_Evaluator_joinInto false (rmv 5 200) Q K P J (rePair (up2 T mm (j : Int) 1) eo co el cl er cr (k : Int) (j : Int)) 0 0 74 [(0, vR (some v)), (1, vR (some eo)), (2, vR (some el)), (3, vR (some er)), (6, vI how), (7, vI B), (8, vI C), (9, vI (k : Int)), (10, vI 0), (11, vI ((j : Int) + 1))] [] := fun z z2 => by
      have jw : (jWid how wa wb) = wa + wb := if_pos z2
      have h1 := (h.mm (j := (j : Int)) (z := 1) p1 p2).1
      have hf := (h.mm (j := (j : Int)) (z := 1) p1 p2).2
      have e1 : up2 T mm (j : Int) 1 el = T el := funext (fun q => up2_o _ _ _ _ p3)
      have e2 : up2 T mm (j : Int) 1 er = T er := funext (fun q => up2_o _ _ _ _ p5)
      have q := ih (j + 1) (rePair (up2 T mm (j : Int) 1) eo co el cl er cr (k : Int) (j : Int)) 0 (by omega) (al0 z) (by
        rw [take_snoc hy, flt_yes (mt.mpr z), jM_add z2, ← List.append_assoc]
        rw [jw] at h1 ⊢
        have r := rePair_R (f := el) (d := cl) (g := er) (h := cr) (y := (k : Int)) (z := (j : Int)) m5 m1 m2 n4.symm h1 (by rw [e1]; exact l2) (by rw [e2]; exact r2)
        rw [rpRow_at hL (hf cl m3 n2.symm p4) hk, rpRow_at hR (hf cr m4 n4.symm p6) hy] at r
        exact ⟨r, fun q q1 q2 q3 => (rePair_o q1 q2).trans (hf q q1 q2 q3)⟩) (mset z _ (fun q => by rw [rePair_o p1.symm p2.symm]))
      rw [k1] at q; exact q
    have rm := fun z (z2 : how ≤ 2) => reRoom (h.mm (j := (j : Int)) (z := 1) p1 p2).1 hw (by have := jn_room1 (wb := wb) (wa := wa) hk hy (mt.mpr z) z2; omega)
    have ee1 : up2 T mm (j : Int) 1 el 2 = wa := (up2_o _ _ _ _ p3).trans l2
    have ee2 : up2 T mm (j : Int) 1 er 2 = wb := (up2_o _ _ _ _ p5).trans r2
    have wj : how ≤ 2 → up2 T mm (j : Int) 1 eo 2 = (wa : Int) + wb := fun z => by rw [up2_o _ _ _ _ p1, h.1.1, show (jWid how wa wb) = wa + wb from if_pos z]; omega
    clear ih hmt mset al0 hQ
    refine VW.iload (pc' := 76) d_Evaluator_joinInto_74 rfl rfl ?_
    refine VW.aload_n (pc' := 77) d_Evaluator_joinInto_76 rfl rfl ?_
    refine VW.gI (ci := 5) (T := T5) (N := 3) (k := 1) (k' := 1) (pc' := 80) d_Evaluator_joinInto_77 rfl lk_Evaluator_61 in5 rfl rfl rfl rfl (by first | exact hO.1 | exact hE.1 | exact hF.1 | assumption) (te) ?_
    refine VW.icmp_ge (tgt := 143) (pc' := 83) d_Evaluator_joinInto_80 rfl rfl (fun c80 => ?_) (fun c80 => ?_)
    case refine_1 => exact absurd c80 (by omega)
    refine VW.aload_n (pc' := 84) d_Evaluator_joinInto_83 rfl rfl ?_
    refine VW.iload (pc' := 86) d_Evaluator_joinInto_84 rfl rfl ?_
    refine VW.iload (pc' := 88) d_Evaluator_joinInto_86 rfl rfl ?_
    refine VW.cV (ci := 5) (T := T5) (N := 3) (pc' := 91) d_Evaluator_joinInto_88 rfl mv_Relation_cell lk_Evaluator_135 rfl (by first | exact hO.1 | exact hE.1 | exact hF.1 | assumption) rfl rfl rfl (Nat.le_refl _) (Nat.le_refl _) (sp_Relation_cell hE (by rw [l2]; omega)) rfl rfl ?_
    refine VW.iconst (pc' := 92) d_Evaluator_joinInto_91 rfl (by decide) ?_
    refine VW.aload_n (pc' := 93) d_Evaluator_joinInto_92 rfl rfl ?_
    refine VW.iload (pc' := 95) d_Evaluator_joinInto_93 rfl rfl ?_
    refine VW.iload (pc' := 97) d_Evaluator_joinInto_95 rfl rfl ?_
    refine VW.cV (ci := 5) (T := T5) (N := 3) (pc' := 100) d_Evaluator_joinInto_97 rfl mv_Relation_cell lk_Evaluator_135 rfl (by first | exact hO.1 | exact hE.1 | exact hF.1 | assumption) rfl rfl rfl (Nat.le_refl _) (Nat.le_refl _) (sp_Relation_cell hF (by rw [r2]; omega)) rfl rfl ?_
    refine VW.cSN (host := "RowForge") (pc' := 103) d_Evaluator_joinInto_100 rfl ms_F_compared (by decide) rfl rfl rfl (Nat.le_refl _) (Nat.le_refl _) (sp_F_compared) rfl rfl ?_
    refine VW.iconst (pc' := 104) d_Evaluator_joinInto_103 rfl (by decide) ?_
    refine VW.icmp_eq (tgt := 110) (pc' := 107) d_Evaluator_joinInto_104 rfl rfl (fun c104 => ?_) (fun c104 => ?_)
    · refine VW.iconst (pc' := 111) d_Evaluator_joinInto_110 rfl (by decide) ?_
      refine VW.istore (pc' := 113) d_Evaluator_joinInto_111 rfl rfl ?_
      refine VW.aload_n (pc' := 114) d_Evaluator_joinInto_113 rfl rfl ?_
      refine VW.gP (ci := 1) (T := T1) (N := 7) (k := 4) (k' := 4) (pc' := 117) d_Evaluator_joinInto_114 rfl lk_Evaluator_24 in1 rfl rfl rfl rfl (by first | exact hO.1 | exact hE.1 | exact hF.1 | assumption) (by first | exact hm | rfl) ?_
      refine VW.iload (pc' := 119) d_Evaluator_joinInto_117 rfl rfl ?_
      refine VW.iconst (pc' := 120) d_Evaluator_joinInto_119 rfl (by decide) ?_
      refine VW.zast (pc' := 121) d_Evaluator_joinInto_120 rfl (by first | exact hO.1 | exact hE.1 | exact hF.1 | assumption) (by omega) (by omega) (by decide) ?_
      refine VW.iload (pc' := 123) d_Evaluator_joinInto_121 rfl rfl ?_
      refine VW.iconst (pc' := 124) d_Evaluator_joinInto_123 rfl (by decide) ?_
      refine VW.icmp_gt (tgt := 137) (pc' := 127) d_Evaluator_joinInto_124 rfl rfl (fun c124 => ?_) (fun c124 => ?_)
      · refine VW.iinc (pc' := 140) d_Evaluator_joinInto_137 rfl rfl rfl (by omega) ?_
        refine VW.goto (pc' := 74) d_Evaluator_joinInto_140 rfl ?_
        refine VW.pick [0, 1, 2, 3, 6, 7, 8, 9, 10, 11] ?_
        first | exact sk c104 | exact big c104 (by omega) | exact small c104 (by omega)
      · refine VW.aload_n (pc' := 128) d_Evaluator_joinInto_127 rfl rfl ?_
        refine VW.aload_n (pc' := 129) d_Evaluator_joinInto_128 rfl rfl ?_
        refine VW.iload (pc' := 131) d_Evaluator_joinInto_129 rfl rfl ?_
        refine VW.aload_n (pc' := 132) d_Evaluator_joinInto_131 rfl rfl ?_
        refine VW.iload (pc' := 134) d_Evaluator_joinInto_132 rfl rfl ?_
        have rm2 := rm c104 (by omega)
        have wj2 := wj (by omega)
        refine VW.cV (ci := 5) (T := T5) (N := 3) (pc' := 137) d_Evaluator_joinInto_134 rfl mv_Relation_addPair lk_Evaluator_162 rfl (by first | exact hO.1 | exact hE.1) rfl rfl rfl (Nat.le_refl _) (Nat.le_refl _) (sp_Relation_addPair hO hE hF rm2.1 (by rw [ee1, ee2]; omega) (by rw [ee1]; intro; omega) (by rw [ee2]; intro; omega)) rfl rfl ?_
        refine VW.iinc (pc' := 140) d_Evaluator_joinInto_137 rfl rfl rfl (by omega) ?_
        refine VW.goto (pc' := 74) d_Evaluator_joinInto_140 rfl ?_
        refine VW.pick [0, 1, 2, 3, 6, 7, 8, 9, 10, 11] ?_
        first | exact sk c104 | exact big c104 (by omega) | exact small c104 (by omega)
    · refine VW.goto (pc' := 137) d_Evaluator_joinInto_107 rfl ?_
      refine VW.iinc (pc' := 140) d_Evaluator_joinInto_137 rfl rfl rfl (by omega) ?_
      refine VW.goto (pc' := 74) d_Evaluator_joinInto_140 rfl ?_
      refine VW.pick [0, 1, 2, 3, 6, 7, 8, 9, 10, 11] ?_
      first | exact sk c104 | exact big c104 (by omega) | exact small c104 (by omega)
end
