section
variable {K : KT} {P : PT} {J I : IT}
def CSc (I T : IT) (eo co w : Nat) (M : List (List Int)) : Prop := RelR T eo co w M ∧ ∀ q, q ≠ eo → q ≠ co → T q = I q
theorem once_R {T : IT} {eo co w d : Nat} {A : Int} {M : List (List Int)} {p : List Int → Prop} {x : List Int} (hne : eo ≠ co) (h : CSc I T eo co w M) (hx : rowAt T d A w = x) (hp : p x) : CSc I (if bI (x ∈ M) = 1 then T else reAdd T eo co d A) eo co w (onceS p M x) := by
  by_cases z : x ∈ M
  · rw [if_pos (bI1 z), onceS_0 (fun q => q.2 z)]
    exact h
  · rw [if_neg (by rw [bI0 z]; decide), onceS_1 hp z]
    have r := reAdd_R (I := T) (d := d) (A := A) hne h.1
    rw [hx] at r
    exact ⟨r, fun q q1 q2 => (reAdd_o q1 q2).trans (h.2 q q1 q2)⟩
theorem once_len {p : List Int → Prop} {acc : List (List Int)} {L : List (List Int)} {k : Nat} (hk : k ≤ L.length) : (onceL p acc (L.take k)).length ≤ acc.length + k := by
  have := onceL_len (p := p) (L.take k) acc
  rw [List.length_take] at this
  omega
/-- all that a set operation stands on -/
def CoP (K : KT) (P : PT) (I : IT) (eo co el cl er cr w : Nat) (L R : List (List Int)) : Prop := ReT K P eo co el cl er cr ∧ (RelR I el cl w L ∧ RelR I er cr w R) ∧ w ≤ 10 ∧ L.length + R.length ≤ 512
theorem cb_two {eo co el cl er cr w : Nat} {how : Int} {L R : List (List Int)} (hJ : CoP K P I eo co el cl er cr w L R) : ∀ (l j : Nat) (T : IT), j + l = R.length → how = 0 → CSc I T eo co w (onceL (fun _ => True) (onceL (cmbP how R) [] L) (R.take j)) → VW m_Evaluator_combineInto false (rmv 4 200) (exU K P J (.inl none) (fun T => RelR T eo co w (cmbL how L R) ∧ ∀ q, q ≠ eo → q ≠ co → T q = I q)) K P J T 0 0 52 [(0, vR (some eo)), (1, vR (some el)), (2, vR (some er)), (3, vI how), (4, vI (j : Int))] [] := by
  obtain ⟨hA, ⟨hL, hR⟩, hw, hn5⟩ := id hJ
  obtain ⟨hO, hE, hF, n1, n2, n3, n4⟩ := id hA
  obtain ⟨m1, m2, m3, m4, m5⟩ := hA.row
  intro l
  induction l with
  | zero =>
    intro j T hj h2 h
    have ej : j = R.length := by omega
    subst ej
    have te : T er 1 = R.length := by rw [h.2 er n3.symm m2]; exact hR.2.1
    have fin : RelR T eo co w (cmbL how L R) ∧ ∀ q, q ≠ eo → q ≠ co → T q = I q := by
      unfold cmbL
      rw [if_pos h2]
      unfold CSc at h
      rw [List.take_length] at h
      exact h
    refine VW.iload (pc' := 54) d_Evaluator_combineInto_52 rfl rfl ?_
    refine VW.aload_n (pc' := 55) d_Evaluator_combineInto_54 rfl rfl ?_
    refine VW.gI (ci := 5) (T := T5) (N := 3) (k := 1) (k' := 1) (pc' := 58) d_Evaluator_combineInto_55 rfl lk_Evaluator_61 in5 rfl rfl rfl rfl (by first | exact hO.1 | exact hE.1 | exact hF.1 | assumption) (te) ?_
    refine VW.icmp_ge (tgt := 78) (pc' := 61) d_Evaluator_combineInto_58 rfl rfl (fun c58 => ?_) (fun c58 => ?_)
    · exact VW.vret d_Evaluator_combineInto_78 rfl (Nat.zero_le _) (Nat.zero_le _) (⟨rfl, rfl, rfl, rfl, fin⟩)
    · exfalso; omega
  | succ l ih =>
    intro j T hj h2 h
    have te : T er 1 = R.length := by rw [h.2 er n3.symm m2]; exact hR.2.1
    have tw : T er 2 = w := by rw [h.2 er n3.symm m2]; exact hR.1
    have hy := hR.row (k := j) (by omega)
    rw [Int.mul_comm] at hy
    have mj := relMul (w := w) (m := j) hw (by omega)
    have hx : rowAt T cr ((j : Int) * (w : Int)) w = rowAt I cr ((j : Int) * (w : Int)) w := rowAt_congr (fun c _ _ => by rw [h.2 cr m4 n4.symm])
    have l1 := once_len (p := fun _ => True) (acc := onceL (cmbP how R) [] L) (L := R) (k := j) (by omega)
    have l0 := onceL_len (p := cmbP how R) L []
    have q := ih (j + 1) _ (by omega) h2 (by
      rw [take_snoc hy, onceL_snoc]
      exact once_R (p := fun _ => True) m5 h hx trivial)
    rw [show ((j + 1 : Nat) : Int) = (j : Int) + 1 by omega, ← hx] at q
    simp only [List.length_nil] at l0
    clear ih
    refine VW.iload (pc' := 54) d_Evaluator_combineInto_52 rfl rfl ?_
    refine VW.aload_n (pc' := 55) d_Evaluator_combineInto_54 rfl rfl ?_
    refine VW.gI (ci := 5) (T := T5) (N := 3) (k := 1) (k' := 1) (pc' := 58) d_Evaluator_combineInto_55 rfl lk_Evaluator_61 in5 rfl rfl rfl rfl (by first | exact hO.1 | exact hE.1 | exact hF.1 | assumption) (te) ?_
    refine VW.icmp_ge (tgt := 78) (pc' := 61) d_Evaluator_combineInto_58 rfl rfl (fun c58 => ?_) (fun c58 => ?_)
    case refine_1 => exact absurd c58 (by omega)
    refine VW.iload_n (pc' := 62) d_Evaluator_combineInto_61 rfl rfl ?_
    refine VW.if_ne (tgt := 78) (pc' := 65) d_Evaluator_combineInto_62 rfl rfl (fun c62 => ?_) (fun c62 => ?_)
    case refine_1 => exact absurd c62 (by omega)
    refine VW.aload_n (pc' := 66) d_Evaluator_combineInto_65 rfl rfl ?_
    refine VW.aload_n (pc' := 67) d_Evaluator_combineInto_66 rfl rfl ?_
    refine VW.iload (pc' := 69) d_Evaluator_combineInto_67 rfl rfl ?_
    refine VW.cV (ci := 5) (T := T5) (N := 3) (pc' := 72) d_Evaluator_combineInto_69 rfl mv_Relation_addOnce lk_Evaluator_174 rfl (by first | exact hO.1 | exact hE.1 | exact hF.1 | assumption) rfl rfl rfl (Nat.le_refl _) (Nat.le_refl _) (sp_Relation_addOnce hO hF h.1 hw (by omega) rfl tw (by omega)) rfl rfl ?_
    refine VW.iinc (pc' := 75) d_Evaluator_combineInto_72 rfl rfl rfl (by omega) ?_
    refine VW.goto (pc' := 52) d_Evaluator_combineInto_75 rfl ?_
    refine VW.pick [0, 1, 2, 3, 4] ?_
    exact q
theorem cb_one {eo co el cl er cr w : Nat} {how : Int} {L R : List (List Int)} (hJ : CoP K P I eo co el cl er cr w L R) : ∀ (l k : Nat) (T : IT), k + l = L.length → CSc I T eo co w (onceL (cmbP how R) [] (L.take k)) → VW m_Evaluator_combineInto false (rmv 4 200) (exU K P J (.inl none) (fun T => RelR T eo co w (cmbL how L R) ∧ ∀ q, q ≠ eo → q ≠ co → T q = I q)) K P J T 0 0 3 [(0, vR (some eo)), (1, vR (some el)), (2, vR (some er)), (3, vI how), (4, vI (k : Int))] [] := by
  obtain ⟨hA, ⟨hL, hR⟩, hw, hn5⟩ := id hJ
  obtain ⟨hO, hE, hF, n1, n2, n3, n4⟩ := id hA
  obtain ⟨m1, m2, m3, m4, m5⟩ := hA.row
  intro l
  induction l with
  | zero =>
    intro k T hj h
    have ek : k = L.length := by omega
    subst ek
    rw [List.take_length] at h
    have tl : T el 1 = L.length := by rw [h.2 el n1.symm m1]; exact hL.2.1
    have te : T er 1 = R.length := by rw [h.2 er n3.symm m2]; exact hR.2.1
    have dd : how = 0 → VW m_Evaluator_combineInto false (rmv 4 200) (exU K P J (.inl none) (fun T => RelR T eo co w (cmbL how L R) ∧ ∀ q, q ≠ eo → q ≠ co → T q = I q)) K P J T 0 0 52 [(0, vR (some eo)), (1, vR (some el)), (2, vR (some er)), (3, vI how), (4, vI 0)] [] := fun z => cb_two hJ R.length 0 T (by omega) z (by rw [List.take_zero]; exact h)
    have fin : how ≠ 0 → RelR T eo co w (cmbL how L R) ∧ ∀ q, q ≠ eo → q ≠ co → T q = I q := fun z => by
      unfold cmbL
      rw [if_neg z]
      exact h
    have out : how ≠ 0 → VW m_Evaluator_combineInto false (rmv 4 200) (exU K P J (.inl none) (fun T => RelR T eo co w (cmbL how L R) ∧ ∀ q, q ≠ eo → q ≠ co → T q = I q)) K P J T 0 0 52 [(0, vR (some eo)), (1, vR (some el)), (2, vR (some er)), (3, vI how), (4, vI 0)] [] := fun z => by
      have f := fin z
      refine VW.iload (pc' := 54) d_Evaluator_combineInto_52 rfl rfl ?_
      refine VW.aload_n (pc' := 55) d_Evaluator_combineInto_54 rfl rfl ?_
      refine VW.gI (ci := 5) (T := T5) (N := 3) (k := 1) (k' := 1) (pc' := 58) d_Evaluator_combineInto_55 rfl lk_Evaluator_61 in5 rfl rfl rfl rfl (by first | exact hO.1 | exact hE.1 | exact hF.1 | assumption) (te) ?_
      refine VW.icmp_ge (tgt := 78) (pc' := 61) d_Evaluator_combineInto_58 rfl rfl (fun c58 => ?_) (fun c58 => ?_)
      · exact VW.vret d_Evaluator_combineInto_78 rfl (Nat.zero_le _) (Nat.zero_le _) (⟨rfl, rfl, rfl, rfl, f⟩)
      · refine VW.iload_n (pc' := 62) d_Evaluator_combineInto_61 rfl rfl ?_
        refine VW.if_ne (tgt := 78) (pc' := 65) d_Evaluator_combineInto_62 rfl rfl (fun c62 => ?_) (fun c62 => ?_)
        · try have e62 := bIn c62
          exact VW.vret d_Evaluator_combineInto_78 rfl (Nat.zero_le _) (Nat.zero_le _) (⟨rfl, rfl, rfl, rfl, f⟩)
        · try have e62 := bIe c62
          exfalso; omega
    have both : VW m_Evaluator_combineInto false (rmv 4 200) (exU K P J (.inl none) (fun T => RelR T eo co w (cmbL how L R) ∧ ∀ q, q ≠ eo → q ≠ co → T q = I q)) K P J T 0 0 52 [(0, vR (some eo)), (1, vR (some el)), (2, vR (some er)), (3, vI how), (4, vI 0)] [] := by
      by_cases z : how = 0
      · exact dd z
      · exact out z
    refine VW.iload (pc' := 5) d_Evaluator_combineInto_3 rfl rfl ?_
    refine VW.aload_n (pc' := 6) d_Evaluator_combineInto_5 rfl rfl ?_
    refine VW.gI (ci := 5) (T := T5) (N := 3) (k := 1) (k' := 1) (pc' := 9) d_Evaluator_combineInto_6 rfl lk_Evaluator_61 in5 rfl rfl rfl rfl (by first | exact hO.1 | exact hE.1 | exact hF.1 | assumption) (tl) ?_
    refine VW.icmp_ge (tgt := 49) (pc' := 12) d_Evaluator_combineInto_9 rfl rfl (fun c9 => ?_) (fun c9 => ?_)
    · refine VW.iconst (pc' := 50) d_Evaluator_combineInto_49 rfl (by decide) ?_
      refine VW.istore (pc' := 52) d_Evaluator_combineInto_50 rfl rfl ?_
      refine VW.pick [0, 1, 2, 3, 4] ?_
      exact both
    · exfalso; omega
  | succ l ih =>
    intro k T hj h
    have tl : T el 1 = L.length := by rw [h.2 el n1.symm m1]; exact hL.2.1
    have tw : T el 2 = w := by rw [h.2 el n1.symm m1]; exact hL.1
    have gr : RelR T er cr w R := hR.of (h.2 er n3.symm m2) (h.2 cr m4 n4.symm)
    have hy := hL.row (k := k) (by omega)
    rw [Int.mul_comm] at hy
    have mj := relMul (w := w) (m := k) hw (by omega)
    have hx : rowAt T cl ((k : Int) * (w : Int)) w = rowAt I cl ((k : Int) * (w : Int)) w := rowAt_congr (fun c _ _ => by rw [h.2 cl m3 n2.symm])
    have l1 := once_len (p := cmbP how R) (acc := []) (L := L) (k := k) (by omega)
    simp only [List.length_nil] at l1
    have k1 : ((k + 1 : Nat) : Int) = (k : Int) + 1 := by omega
    have ad : cmbP how R (rowAt T cl ((k : Int) * (w : Int)) w) → VW m_Evaluator_combineInto false (rmv 4 200) (exU K P J (.inl none) (fun T => RelR T eo co w (cmbL how L R) ∧ ∀ q, q ≠ eo → q ≠ co → T q = I q)) K P J (if bI (rowAt T cl ((k : Int) * (w : Int)) w ∈ onceL (cmbP how R) [] (L.take k)) = 1 then T else reAdd T eo co cl ((k : Int) * (w : Int))) 0 0 3 [(0, vR (some eo)), (1, vR (some el)), (2, vR (some er)), (3, vI how), (4, vI ((k : Int) + 1))] [] := fun z => by
      have q := ih (k + 1) _ (by omega) (by
        rw [take_snoc hy, onceL_snoc]
        exact once_R m5 h hx (hx ▸ z))
      rw [k1, ← hx] at q; exact q
    have sk : ¬ cmbP how R (rowAt T cl ((k : Int) * (w : Int)) w) → VW m_Evaluator_combineInto false (rmv 4 200) (exU K P J (.inl none) (fun T => RelR T eo co w (cmbL how L R) ∧ ∀ q, q ≠ eo → q ≠ co → T q = I q)) K P J T 0 0 3 [(0, vR (some eo)), (1, vR (some el)), (2, vR (some er)), (3, vI how), (4, vI ((k : Int) + 1))] [] := fun z => by
      have q := ih (k + 1) T (by omega) (by
        rw [take_snoc hy, onceL_snoc, ← hx, onceS_0 (fun y => z y.1)]
        exact h)
      rw [k1] at q; exact q
    have mem1 : bI (rowAt T cl ((k : Int) * (w : Int)) w ∈ R) = 1 → rowAt T cl ((k : Int) * (w : Int)) w ∈ R := fun z => Classical.byContradiction (fun y => by rw [bI0 y] at z; cases z)
    have mem0 : bI (rowAt T cl ((k : Int) * (w : Int)) w ∈ R) = 0 → rowAt T cl ((k : Int) * (w : Int)) w ∉ R := fun z y => by rw [bI1 y] at z; cases z
    have m01 := bI_mem (x := rowAt T cl ((k : Int) * (w : Int)) w) (L := R)
    have c0 : how = 0 → cmbP how R (rowAt T cl ((k : Int) * (w : Int)) w) := fun z => Or.inl z
    have y1 : how ≠ 0 → how = 1 → bI (rowAt T cl ((k : Int) * (w : Int)) w ∈ R) = 1 → cmbP how R (rowAt T cl ((k : Int) * (w : Int)) w) := fun _ z z2 => Or.inr (Or.inl ⟨z, mem1 z2⟩)
    have y2 : how ≠ 0 → how ≠ 1 → bI (rowAt T cl ((k : Int) * (w : Int)) w ∈ R) = 0 → cmbP how R (rowAt T cl ((k : Int) * (w : Int)) w) := fun z z1 z2 => Or.inr (Or.inr ⟨z, z1, mem0 z2⟩)
    have x1 : how ≠ 0 → how = 1 → bI (rowAt T cl ((k : Int) * (w : Int)) w ∈ R) ≠ 1 → ¬ cmbP how R (rowAt T cl ((k : Int) * (w : Int)) w) := fun z z1 z2 y => by
      rcases y with y | y | y
      · exact z y
      · exact z2 (bI1 y.2)
      · exact y.2.1 z1
    have x2 : how ≠ 0 → how ≠ 1 → bI (rowAt T cl ((k : Int) * (w : Int)) w ∈ R) ≠ 0 → ¬ cmbP how R (rowAt T cl ((k : Int) * (w : Int)) w) := fun z z1 z2 y => by
      rcases y with y | y | y
      · exact z y
      · exact z1 y.1
      · exact z2 (bI0 y.2.2)
    clear ih mem1 mem0
    refine VW.iload (pc' := 5) d_Evaluator_combineInto_3 rfl rfl ?_
    refine VW.aload_n (pc' := 6) d_Evaluator_combineInto_5 rfl rfl ?_
    refine VW.gI (ci := 5) (T := T5) (N := 3) (k := 1) (k' := 1) (pc' := 9) d_Evaluator_combineInto_6 rfl lk_Evaluator_61 in5 rfl rfl rfl rfl (by first | exact hO.1 | exact hE.1 | exact hF.1 | assumption) (tl) ?_
    refine VW.icmp_ge (tgt := 49) (pc' := 12) d_Evaluator_combineInto_9 rfl rfl (fun c9 => ?_) (fun c9 => ?_)
    case refine_1 => exact absurd c9 (by omega)
    refine VW.iload_n (pc' := 13) d_Evaluator_combineInto_12 rfl rfl ?_
    refine VW.if_eq (tgt := 36) (pc' := 16) d_Evaluator_combineInto_13 rfl rfl (fun c13 => ?_) (fun c13 => ?_)
    · try have e13 := bIe c13
      refine VW.aload_n (pc' := 37) d_Evaluator_combineInto_36 rfl rfl ?_
      refine VW.aload_n (pc' := 38) d_Evaluator_combineInto_37 rfl rfl ?_
      refine VW.iload (pc' := 40) d_Evaluator_combineInto_38 rfl rfl ?_
      refine VW.cV (ci := 5) (T := T5) (N := 3) (pc' := 43) d_Evaluator_combineInto_40 rfl mv_Relation_addOnce lk_Evaluator_174 rfl (by first | exact hO.1 | exact hE.1 | exact hF.1 | assumption) rfl rfl rfl (Nat.le_refl _) (Nat.le_refl _) (sp_Relation_addOnce hO hE h.1 hw (by omega) rfl tw (by omega)) rfl rfl ?_
      refine VW.iinc (pc' := 46) d_Evaluator_combineInto_43 rfl rfl rfl (by omega) ?_
      refine VW.goto (pc' := 3) d_Evaluator_combineInto_46 rfl ?_
      refine VW.pick [0, 1, 2, 3, 4] ?_
      first | exact ad (c0 c13) | exact ad (y1 c13 c25 c33) | exact ad (y2 c13 c25 c33) | exact sk (x1 c13 c25 c33) | exact sk (x2 c13 c25 c33)
    · try have e13 := bIn c13
      refine VW.aload_n (pc' := 17) d_Evaluator_combineInto_16 rfl rfl ?_
      refine VW.aload_n (pc' := 18) d_Evaluator_combineInto_17 rfl rfl ?_
      refine VW.iload (pc' := 20) d_Evaluator_combineInto_18 rfl rfl ?_
      refine VW.cV (ci := 5) (T := T5) (N := 3) (pc' := 23) d_Evaluator_combineInto_20 rfl mv_Relation_holds lk_Evaluator_170 rfl (by first | exact hO.1 | exact hE.1 | exact hF.1 | assumption) rfl rfl rfl (Nat.le_refl _) (Nat.le_refl _) (sp_Relation_holds hF hE gr hw (by omega) rfl (by omega)) rfl rfl ?_
      refine VW.iload_n (pc' := 24) d_Evaluator_combineInto_23 rfl rfl ?_
      refine VW.iconst (pc' := 25) d_Evaluator_combineInto_24 rfl (by decide) ?_
      refine VW.icmp_ne (tgt := 32) (pc' := 28) d_Evaluator_combineInto_25 rfl rfl (fun c25 => ?_) (fun c25 => ?_)
      · refine VW.iconst (pc' := 33) d_Evaluator_combineInto_32 rfl (by decide) ?_
        refine VW.icmp_ne (tgt := 43) (pc' := 36) d_Evaluator_combineInto_33 rfl rfl (fun c33 => ?_) (fun c33 => ?_)
        · refine VW.iinc (pc' := 46) d_Evaluator_combineInto_43 rfl rfl rfl (by omega) ?_
          refine VW.goto (pc' := 3) d_Evaluator_combineInto_46 rfl ?_
          refine VW.pick [0, 1, 2, 3, 4] ?_
          first | exact ad (c0 c13) | exact ad (y1 c13 c25 c33) | exact ad (y2 c13 c25 c33) | exact sk (x1 c13 c25 c33) | exact sk (x2 c13 c25 c33)
        · refine VW.aload_n (pc' := 37) d_Evaluator_combineInto_36 rfl rfl ?_
          refine VW.aload_n (pc' := 38) d_Evaluator_combineInto_37 rfl rfl ?_
          refine VW.iload (pc' := 40) d_Evaluator_combineInto_38 rfl rfl ?_
          refine VW.cV (ci := 5) (T := T5) (N := 3) (pc' := 43) d_Evaluator_combineInto_40 rfl mv_Relation_addOnce lk_Evaluator_174 rfl (by first | exact hO.1 | exact hE.1 | exact hF.1 | assumption) rfl rfl rfl (Nat.le_refl _) (Nat.le_refl _) (sp_Relation_addOnce hO hE h.1 hw (by omega) rfl tw (by omega)) rfl rfl ?_
          refine VW.iinc (pc' := 46) d_Evaluator_combineInto_43 rfl rfl rfl (by omega) ?_
          refine VW.goto (pc' := 3) d_Evaluator_combineInto_46 rfl ?_
          refine VW.pick [0, 1, 2, 3, 4] ?_
          first | exact ad (c0 c13) | exact ad (y1 c13 c25 c33) | exact ad (y2 c13 c25 c33) | exact sk (x1 c13 c25 c33) | exact sk (x2 c13 c25 c33)
      · refine VW.iconst (pc' := 29) d_Evaluator_combineInto_28 rfl (by decide) ?_
        refine VW.goto (pc' := 33) d_Evaluator_combineInto_29 rfl ?_
        refine VW.icmp_ne (tgt := 43) (pc' := 36) d_Evaluator_combineInto_33 rfl rfl (fun c33 => ?_) (fun c33 => ?_)
        · refine VW.iinc (pc' := 46) d_Evaluator_combineInto_43 rfl rfl rfl (by omega) ?_
          refine VW.goto (pc' := 3) d_Evaluator_combineInto_46 rfl ?_
          refine VW.pick [0, 1, 2, 3, 4] ?_
          first | exact ad (c0 c13) | exact ad (y1 c13 c25 c33) | exact ad (y2 c13 c25 c33) | exact sk (x1 c13 c25 c33) | exact sk (x2 c13 c25 c33)
        · refine VW.aload_n (pc' := 37) d_Evaluator_combineInto_36 rfl rfl ?_
          refine VW.aload_n (pc' := 38) d_Evaluator_combineInto_37 rfl rfl ?_
          refine VW.iload (pc' := 40) d_Evaluator_combineInto_38 rfl rfl ?_
          refine VW.cV (ci := 5) (T := T5) (N := 3) (pc' := 43) d_Evaluator_combineInto_40 rfl mv_Relation_addOnce lk_Evaluator_174 rfl (by first | exact hO.1 | exact hE.1 | exact hF.1 | assumption) rfl rfl rfl (Nat.le_refl _) (Nat.le_refl _) (sp_Relation_addOnce hO hE h.1 hw (by omega) rfl tw (by omega)) rfl rfl ?_
          refine VW.iinc (pc' := 46) d_Evaluator_combineInto_43 rfl rfl rfl (by omega) ?_
          refine VW.goto (pc' := 3) d_Evaluator_combineInto_46 rfl ?_
          refine VW.pick [0, 1, 2, 3, 4] ?_
          first | exact ad (c0 c13) | exact ad (y1 c13 c25 c33) | exact ad (y2 c13 c25 c33) | exact sk (x1 c13 c25 c33) | exact sk (x2 c13 c25 c33)
theorem sp_Evaluator_combineInto {eo co el cl er cr w : Nat} {how : Int} {L R : List (List Int)} (hJ : CoP K P I eo co el cl er cr w L R) (h0 : RelR I eo co w []) : Sp m_Evaluator_combineInto false (rmv 4 200) (exU K P J (.inl none) (fun T => RelR T eo co w (cmbL how L R) ∧ ∀ q, q ≠ eo → q ≠ co → T q = I q)) K P J I [vR (some eo), vR (some el), vR (some er), vI how] := by
  refine Sp.ofV (by decide) (Or.inr rfl) rfl ?_
  have l := cb_one (J := J) (how := how) hJ L.length 0 I (by omega) ⟨by rw [List.take_zero]; exact h0, fun _ _ _ => rfl⟩
  refine VW.iconst (pc' := 1) d_Evaluator_combineInto_0 rfl (by decide) ?_
  refine VW.istore (pc' := 3) d_Evaluator_combineInto_1 rfl rfl ?_
  refine VW.nrm ?_
  exact l
end
