section
variable {K : KT} {P : PT} {J I : IT}
/-- out of two results a third one, all apart -/
def ReT (K : KT) (P : PT) (eo co el cl er cr : Nat) : Prop := ReW K P eo co 5120 ∧ ReW K P el cl 5120 ∧ ReW K P er cr 5120 ∧ (eo ≠ el ∧ co ≠ cl ∧ eo ≠ er ∧ co ≠ cr)
def jWid (how : Int) (wa wb : Nat) : Nat := if how ≤ 2 then wa + wb else wa
theorem jLeft_app {how B C : Int} {wb : Nat} {L1 L2 R : List (List Int)} : jLeft how B C wb (L1 ++ L2) R = jLeft how B C wb L1 R ++ jLeft how B C wb L2 R := by
  unfold jLeft
  exact List.flatMap_append
theorem jLeft_cut {how B C : Int} {wb k : Nat} {L R : List (List Int)} {x : List Int} (h : L[k]? = some x) : (jLeft how B C wb (L.take k) R).length + (jRow how B C wb R x).length ≤ (jLeft how B C wb L R).length := by
  have e : jLeft how B C wb (L.take (k + 1) ++ L.drop (k + 1)) R = jLeft how B C wb L R := by rw [List.take_append_drop]
  rw [← e, jLeft_app, take_snoc h, jLeft_snoc, List.length_append, List.length_append]
  omega
theorem flt_cut {p : List Int → Prop} {L : List (List Int)} {k : Nat} {x : List Int} (h : L[k]? = some x) (hp : p x) : (flt p (L.take k)).length + 1 ≤ (flt p L).length := by
  have e : flt p (L.take (k + 1) ++ L.drop (k + 1)) = flt p L := by rw [List.take_append_drop]
  rw [← e, flt_app, take_snoc h, flt_yes hp, List.length_append, List.length_append]
  simp only [List.length_singleton]
  omega
theorem jM_len {how : Int} {x : List Int} {F : List (List Int)} : (jM how x F).length = if how ≤ 2 then F.length else 0 := by
  unfold jM
  split
  · rw [List.length_map]
  · rfl
theorem jn_room1 {how B C : Int} {wa wb k j : Nat} {L R : List (List Int)} {x y : List Int} (hk : L[k]? = some x) (hj : R[j]? = some y) (hm : mt2 B C x y) (h2 : how ≤ 2) : (jLeft how B C wb (L.take k) R ++ jM how x (flt (mt2 B C x) (R.take j))).length + 1 ≤ (joinL how B C wa wb L R).length := by
  have a := jLeft_cut (how := how) (B := B) (C := C) (wb := wb) (R := R) hk
  have b := flt_cut (p := mt2 B C x) hj hm
  have c : (jRow how B C wb R x).length = (jM how x (flt (mt2 B C x) R)).length + (jT how wb x (flt (mt2 B C x) R).length).length := by unfold jRow; rw [List.length_append]
  rw [jM_len, if_pos h2] at c
  unfold joinL
  rw [List.length_append, List.length_append, jM_len, if_pos h2]
  omega
theorem jn_room2 {how B C : Int} {wa wb k : Nat} {L R : List (List Int)} {x : List Int} (hk : L[k]? = some x) : (jLeft how B C wb (L.take k) R ++ jM how x (flt (mt2 B C x) R)).length + (jT how wb x (flt (mt2 B C x) R).length).length ≤ (joinL how B C wa wb L R).length := by
  have a := jLeft_cut (how := how) (B := B) (C := C) (wb := wb) (R := R) hk
  have c : (jRow how B C wb R x).length = (jM how x (flt (mt2 B C x) R)).length + (jT how wb x (flt (mt2 B C x) R).length).length := by unfold jRow; rw [List.length_append]
  unfold joinL
  rw [List.length_append, List.length_append]
  omega
theorem jn_room3 {how B C : Int} {wa wb j : Nat} {L R : List (List Int)} {y : List Int} (h2 : how = 2) (hj : R[j]? = some y) (hm : ¬ ∃ x ∈ L, mt2 B C x y) : (jLeft how B C wb L R ++ (flt (fun y => ¬ ∃ x ∈ L, mt2 B C x y) (R.take j)).map (fun y => nul wa ++ y)).length + 1 ≤ (joinL how B C wa wb L R).length := by
  have b := flt_cut (p := fun y => ¬ ∃ x ∈ L, mt2 B C x y) hj hm
  unfold joinL jRight
  rw [if_pos h2, List.length_append, List.length_append, List.length_map, List.length_map]
  omega
theorem rpRow_at {S : IT} {d w k : Nat} {e : Nat} {L : List (List Int)} {x : List Int} (h : RelR I e d w L) (hS : S d = I d) (hk : L[k]? = some x) : rpRow S d w (k : Int) = x := by
  have hl := (List.getElem?_eq_some_iff.mp hk).1
  have r := h.row hl
  rw [hk] at r
  unfold rpRow
  rw [if_neg (by omega), rowAt_congr (I := I) (S := S) (a' := d) (a := d) (b := (w : Int) * (k : Int)) (b' := (k : Int) * (w : Int)) (fun c _ _ => by rw [hS, Int.mul_comm])]
  exact (Option.some.inj r).symm
theorem rpRow_nul {d w : Nat} : rpRow I d w (-1) = nul w := if_pos rfl
theorem ReT.row {eo co el cl er cr : Nat} (h : ReT K P eo co el cl er cr) : (el ≠ co ∧ er ≠ co ∧ cl ≠ eo ∧ cr ≠ eo ∧ eo ≠ co) := ⟨h.2.1.ne2 h.1, h.2.2.1.ne2 h.1, fun z => h.1.ne2 h.2.1 z.symm, fun z => h.1.ne2 h.2.2.1 z.symm, h.1.ne⟩
/-- what the space for a row more asks -/
theorem reRoom {e c w : Nat} {M : List (List Int)} (h : RelR I e c w M) (hw : w ≤ 10) (hM : M.length < 512) : I e 1 < 512 ∧ 0 ≤ I e 1 * I e 2 ∧ 0 ≤ I e 2 ∧ I e 1 * I e 2 + I e 2 ≤ (5120 : Nat) ∧ (5120 : Nat) ≤ 524288 ∧ 0 ≤ I e 1 := by
  have m := relMul (w := w) (m := M.length) hw hM
  rw [h.1, h.2.1]
  omega
theorem sp_Evaluator_addLeft {eo co el cl er cr wa wb k n : Nat} {how al : Int} {L R M : List (List Int)} {x : List Int} (hA : ReT K P eo co el cl er cr) (hL : RelR I el cl wa L) (hR : RelR I er cr wb R) (h0 : RelR I eo co (jWid how wa wb) M) (hw : jWid how wa wb ≤ 10) (hk : L[k]? = some x) (hl5 : L.length ≤ 512) (hal : al = if n = 0 then 1 else 0) (hM : M.length + (jT how wb x n).length ≤ 512) : Sp m_Evaluator_addLeft false (rmv 4 160) (exU K P J (.inl none) (fun T => RelR T eo co (jWid how wa wb) (M ++ jT how wb x n) ∧ ∀ q, q ≠ eo → q ≠ co → T q = I q)) K P J I [vR (some eo), vR (some el), vI k, vR (some er), vI how, vI al] := by
  refine Sp.ofV (by decide) (Or.inr rfl) rfl ?_
  obtain ⟨hO, hE, hF, n1, n2, n3, n4⟩ := id hA
  obtain ⟨m1, m2, m3, m4, m5⟩ := hA.row
  have kl := (List.getElem?_eq_some_iff.mp hk).1
  have wl : wa ≤ 10 := by
    have : wa ≤ jWid how wa wb := by unfold jWid; split <;> omega
    omega
  have hx : ∀ {S : IT}, S cl = I cl → rpRow S cl wa (k : Int) = x := fun h => rpRow_at hL h hk
  have mk := relMul (w := wa) (m := k) wl (by omega)
  have l2 := hL.1
  have r2 := hR.1
  have pair : (how = 1 ∨ how = 2) → n = 0 → RelR (rePair I eo co el cl er cr (k : Int) (-1)) eo co (jWid how wa wb) (M ++ jT how wb x n) ∧ ∀ q, q ≠ eo → q ≠ co → rePair I eo co el cl er cr (k : Int) (-1) q = I q := fun z z2 => by
    have jw : jWid how wa wb = wa + wb := if_pos (by omega)
    rw [jw] at h0 ⊢
    have r := rePair_R (f := el) (d := cl) (g := er) (h := cr) (y := (k : Int)) (z := -1) m5 m1 m2 n4.symm h0 l2 r2
    rw [hx rfl, rpRow_nul] at r
    rw [jT_2 ⟨z, z2⟩]
    exact ⟨r, fun q q1 q2 => rePair_o q1 q2⟩
  have one : ((how = 3 ∧ 0 < n) ∨ (how = 4 ∧ n = 0)) → RelR (reAdd I eo co cl ((k : Int) * I el 2)) eo co (jWid how wa wb) (M ++ jT how wb x n) ∧ ∀ q, q ≠ eo → q ≠ co → reAdd I eo co cl ((k : Int) * I el 2) q = I q := fun z => by
    have jw : jWid how wa wb = wa := if_neg (by omega)
    rw [jw] at h0 ⊢
    have r := reAdd_R (d := cl) (A := (k : Int) * I el 2) m5 h0
    have hx' := hx (S := I) rfl
    unfold rpRow at hx'
    rw [if_neg (by omega), ← l2] at hx'
    rw [hx'] at r
    rw [jT_1 z]
    exact ⟨r, fun q q1 q2 => reAdd_o q1 q2⟩
  have non : ¬ ((how = 3 ∧ 0 < n) ∨ (how = 4 ∧ n = 0)) → ¬ ((how = 1 ∨ how = 2) ∧ n = 0) → RelR I eo co (jWid how wa wb) (M ++ jT how wb x n) ∧ ∀ q, q ≠ eo → q ≠ co → I q = I q := fun z z2 => by
    rw [jT_0 z z2, List.append_nil]
    exact ⟨h0, fun _ _ _ => rfl⟩
  have lt1 : ((how = 1 ∨ how = 2) ∧ n = 0) ∨ ((how = 3 ∧ 0 < n) ∨ (how = 4 ∧ n = 0)) → M.length < 512 := fun z => by
    rcases z with z | z
    · rw [jT_2 z, List.length_singleton] at hM; omega
    · rw [jT_1 z, List.length_singleton] at hM; omega
  have rm := fun z => reRoom h0 hw (lt1 z)
  have wj1 : (how = 1 ∨ how = 2) → (I eo 2 = I el 2 + I er 2) := fun z => by
    rw [h0.1, l2, r2, show jWid how wa wb = wa + wb from if_pos (by omega)]; omega
  have wj2 : (how = 3 ∨ how = 4) → I eo 2 = I el 2 := fun z => by
    rw [h0.1, l2, show jWid how wa wb = wa from if_neg (by omega)]
  rcases Nat.eq_zero_or_pos n with hn | hn
  · rw [if_pos hn] at hal
    subst hal
    have q34 : how = 4 → (how = 3 ∧ 0 < n) ∨ (how = 4 ∧ n = 0) := fun z => Or.inr ⟨z, hn⟩
    have w34 : how = 4 → how = 3 ∨ how = 4 := Or.inr
    have pr := fun z => pair z hn
    have on := fun z => one (q34 z)
    have nn : how ≠ 1 → how ≠ 2 → how ≠ 4 → _ := fun z1 z2 z4 => non (fun z => by omega) (fun z => by omega)
    refine VW.iload (pc' := 2) d_Evaluator_addLeft_0 rfl rfl ?_
    refine VW.if_eq (tgt := 28) (pc' := 5) d_Evaluator_addLeft_2 rfl rfl (fun c2 => ?_) (fun c2 => ?_)
    case refine_1 => exact absurd c2 (by decide)
    refine VW.iload (pc' := 7) d_Evaluator_addLeft_5 rfl rfl ?_
    refine VW.iconst (pc' := 8) d_Evaluator_addLeft_7 rfl (by decide) ?_
    refine VW.icmp_eq (tgt := 17) (pc' := 11) d_Evaluator_addLeft_8 rfl rfl (fun c8 => ?_) (fun c8 => ?_)
    · have q12 : how = 1 ∨ how = 2 := by first | exact Or.inl c8 | exact Or.inr c14
      refine VW.aload_n (pc' := 18) d_Evaluator_addLeft_17 rfl rfl ?_
      refine VW.aload_n (pc' := 19) d_Evaluator_addLeft_18 rfl rfl ?_
      refine VW.iload_n (pc' := 20) d_Evaluator_addLeft_19 rfl rfl ?_
      refine VW.aload_n (pc' := 21) d_Evaluator_addLeft_20 rfl rfl ?_
      refine VW.iconst (pc' := 22) d_Evaluator_addLeft_21 rfl (by decide) ?_
      have rm2 := rm (Or.inl ⟨q12, hn⟩)
      have wj := wj1 q12
      refine VW.cV (ci := 5) (T := T5) (N := 3) (pc' := 25) d_Evaluator_addLeft_22 rfl mv_Relation_addPair lk_Evaluator_162 rfl (by first | exact hO.1 | exact hE.1) rfl rfl rfl (Nat.le_refl _) (Nat.le_refl _) (sp_Relation_addPair hO hE hF rm2.1 (by rw [l2, r2]; rw [l2, r2] at wj; omega) (by rw [l2]; intro; omega) (fun z => absurd rfl z)) rfl rfl ?_
      refine VW.goto (pc' := 49) d_Evaluator_addLeft_25 rfl ?_
      exact VW.vret d_Evaluator_addLeft_49 rfl (Nat.zero_le _) (Nat.zero_le _) (⟨rfl, rfl, rfl, rfl, by first | exact pr q12 | exact on c40 | exact nn c8 c14 c40⟩)
    · refine VW.iload (pc' := 13) d_Evaluator_addLeft_11 rfl rfl ?_
      refine VW.iconst (pc' := 14) d_Evaluator_addLeft_13 rfl (by decide) ?_
      refine VW.icmp_ne (tgt := 28) (pc' := 17) d_Evaluator_addLeft_14 rfl rfl (fun c14 => ?_) (fun c14 => ?_)
      · refine VW.iload (pc' := 30) d_Evaluator_addLeft_28 rfl rfl ?_
        refine VW.iload (pc' := 32) d_Evaluator_addLeft_30 rfl rfl ?_
        refine VW.if_eq (tgt := 39) (pc' := 35) d_Evaluator_addLeft_32 rfl rfl (fun c32 => ?_) (fun c32 => ?_)
        case refine_1 => exact absurd c32 (by decide)
        refine VW.iconst (pc' := 36) d_Evaluator_addLeft_35 rfl (by decide) ?_
        refine VW.goto (pc' := 40) d_Evaluator_addLeft_36 rfl ?_
        refine VW.icmp_ne (tgt := 49) (pc' := 43) d_Evaluator_addLeft_40 rfl rfl (fun c40 => ?_) (fun c40 => ?_)
        · exact VW.vret d_Evaluator_addLeft_49 rfl (Nat.zero_le _) (Nat.zero_le _) (⟨rfl, rfl, rfl, rfl, by first | exact pr q12 | exact on c40 | exact nn c8 c14 c40⟩)
        · refine VW.aload_n (pc' := 44) d_Evaluator_addLeft_43 rfl rfl ?_
          refine VW.aload_n (pc' := 45) d_Evaluator_addLeft_44 rfl rfl ?_
          refine VW.iload_n (pc' := 46) d_Evaluator_addLeft_45 rfl rfl ?_
          have rm2 := rm (Or.inr (q34 c40))
          have wj := wj2 (w34 c40)
          refine VW.cV (ci := 5) (T := T5) (N := 3) (pc' := 49) d_Evaluator_addLeft_46 rfl mv_Relation_addRow lk_Evaluator_64 rfl (by first | exact hO.1 | exact hE.1) rfl rfl rfl (Nat.le_refl _) (Nat.le_refl _) (sp_Relation_addRow hO hE rm2.1 rm2.2 (by rw [wj, l2]; omega)) rfl rfl ?_
          exact VW.vret d_Evaluator_addLeft_49 rfl (Nat.zero_le _) (Nat.zero_le _) (⟨rfl, rfl, rfl, rfl, by first | exact pr q12 | exact on c40 | exact nn c8 c14 c40⟩)
      · have q12 : how = 1 ∨ how = 2 := by first | exact Or.inl c8 | exact Or.inr c14
        refine VW.aload_n (pc' := 18) d_Evaluator_addLeft_17 rfl rfl ?_
        refine VW.aload_n (pc' := 19) d_Evaluator_addLeft_18 rfl rfl ?_
        refine VW.iload_n (pc' := 20) d_Evaluator_addLeft_19 rfl rfl ?_
        refine VW.aload_n (pc' := 21) d_Evaluator_addLeft_20 rfl rfl ?_
        refine VW.iconst (pc' := 22) d_Evaluator_addLeft_21 rfl (by decide) ?_
        have rm2 := rm (Or.inl ⟨q12, hn⟩)
        have wj := wj1 q12
        refine VW.cV (ci := 5) (T := T5) (N := 3) (pc' := 25) d_Evaluator_addLeft_22 rfl mv_Relation_addPair lk_Evaluator_162 rfl (by first | exact hO.1 | exact hE.1) rfl rfl rfl (Nat.le_refl _) (Nat.le_refl _) (sp_Relation_addPair hO hE hF rm2.1 (by rw [l2, r2]; rw [l2, r2] at wj; omega) (by rw [l2]; intro; omega) (fun z => absurd rfl z)) rfl rfl ?_
        refine VW.goto (pc' := 49) d_Evaluator_addLeft_25 rfl ?_
        exact VW.vret d_Evaluator_addLeft_49 rfl (Nat.zero_le _) (Nat.zero_le _) (⟨rfl, rfl, rfl, rfl, by first | exact pr q12 | exact on c40 | exact nn c8 c14 c40⟩)
  · rw [if_neg (by omega)] at hal
    subst hal
    have q34 : how = 3 → (how = 3 ∧ 0 < n) ∨ (how = 4 ∧ n = 0) := fun z => Or.inl ⟨z, hn⟩
    have w34 : how = 3 → how = 3 ∨ how = 4 := Or.inl
    have on := fun z => one (q34 z)
    have nn : how ≠ 3 → _ := fun z1 => non (fun z => by omega) (fun z => by omega)
    refine VW.iload (pc' := 2) d_Evaluator_addLeft_0 rfl rfl ?_
    refine VW.if_eq (tgt := 28) (pc' := 5) d_Evaluator_addLeft_2 rfl rfl (fun c2 => ?_) (fun c2 => ?_)
    case refine_2 => exact absurd c2 (fun z => z rfl)
    refine VW.iload (pc' := 30) d_Evaluator_addLeft_28 rfl rfl ?_
    refine VW.iload (pc' := 32) d_Evaluator_addLeft_30 rfl rfl ?_
    refine VW.if_eq (tgt := 39) (pc' := 35) d_Evaluator_addLeft_32 rfl rfl (fun c32 => ?_) (fun c32 => ?_)
    case refine_2 => exact absurd c32 (fun z => z rfl)
    refine VW.iconst (pc' := 40) d_Evaluator_addLeft_39 rfl (by decide) ?_
    refine VW.icmp_ne (tgt := 49) (pc' := 43) d_Evaluator_addLeft_40 rfl rfl (fun c40 => ?_) (fun c40 => ?_)
    · exact VW.vret d_Evaluator_addLeft_49 rfl (Nat.zero_le _) (Nat.zero_le _) (⟨rfl, rfl, rfl, rfl, by first | exact on c40 | exact nn c40⟩)
    · refine VW.aload_n (pc' := 44) d_Evaluator_addLeft_43 rfl rfl ?_
      refine VW.aload_n (pc' := 45) d_Evaluator_addLeft_44 rfl rfl ?_
      refine VW.iload_n (pc' := 46) d_Evaluator_addLeft_45 rfl rfl ?_
      have rm2 := rm (Or.inr (q34 c40))
      have wj := wj2 (w34 c40)
      refine VW.cV (ci := 5) (T := T5) (N := 3) (pc' := 49) d_Evaluator_addLeft_46 rfl mv_Relation_addRow lk_Evaluator_64 rfl (by first | exact hO.1 | exact hE.1) rfl rfl rfl (Nat.le_refl _) (Nat.le_refl _) (sp_Relation_addRow hO hE rm2.1 rm2.2 (by rw [wj, l2]; omega)) rfl rfl ?_
      exact VW.vret d_Evaluator_addLeft_49 rfl (Nat.zero_le _) (Nat.zero_le _) (⟨rfl, rfl, rfl, rfl, by first | exact on c40 | exact nn c40⟩)
end
