section
variable {K : KT} {P : PT} {J I : IT}
theorem InE.rf {i : Nat} : InE I I i := ⟨fun _ _ _ => rfl, ⟨rfl, rfl⟩, fun _ _ => rfl⟩
/-- the world behind a call that grows a transaction -/
def FrT (i : Nat) (K : KT) (P : PT) (K' : KT) (P' : PT) : Prop := ∀ o, ¬ nTx i o → K' o = K o ∧ P' o = P o
theorem Fr.t {i : Nat} {K' : KT} {P' : PT} {I' : IT} (h : Fr (nTx i) K P I K' P' I') : FrT i K P K' P' := fun o ho => ⟨(h o ho).1, (h o ho).2.1⟩
theorem FrT.tr {i : Nat} {K1 K2 : KT} {P1 P2 : PT} (h : FrT i K P K1 P1) (h' : FrT i K1 P1 K2 P2) : FrT i K P K2 P2 := fun o ho => ⟨(h' o ho).1.trans (h o ho).1, (h' o ho).2.trans (h o ho).2⟩
theorem ClW.ft {K' : KT} {P' : PT} {i : Nat} (h : ClW K P) (f : FrT i K P K' P') : ClW K' P' := h.tx (I := fun _ _ => 0) (I' := fun _ _ => 0) (fun o ho => ⟨(f o ho).1, (f o ho).2, rfl⟩)
theorem insert_ex {i l m : Nat} (hC : ClW K P) (hV : TxV K P i l m) (hN : TxN I i l m) (hB : SchB I) (ht : 0 ≤ I (tX i) 8 ∧ I (tX i) 8 < I 1032 0) (h0 : I 1096 7 = 0) (hb : I (tX i) 14 + 10 < 100000) : ∃ (l' ce n : Nat) (K' : KT) (P' : PT), TxV K' P' i l' m ∧ FrT i K P K' P' ∧ (ce + 2 * l = 2 * l' ∧ n + ps l = ps l') ∧
    Sp m_Trial_allowsInsert false ({ frames := 6, cells := ce, slots := n, locals := 240 } : Room) (fun r K2 P2 J2 I2 => K2 = K' ∧ P2 = P' ∧ J2 = J ∧ AlP I i l l' m (fun _ => False) (insY I i) 5 (insOk I i) (insRw I i) r I2 : PQ) K P J I [vR (some 1096), vR (some (tX i))] := by
  have ht6 : 0 ≤ I (tX i) 8 ∧ I (tX i) 8 < 6 := ⟨ht.1, by have := hB.1.2; omega⟩
  have hw := hB.2.1 _ ht.1 ht.2
  by_cases hk : I (tX i) 9 = -2147483648
  · obtain ⟨l2, c2, n2, K2, P2, I2, ⟨q1, q1', q1'', q1c⟩, q2, q3, q4, q5⟩ := ins_loop (J := J) (n := 0) (i := i) (m := m) (w := I 1034 (I (tX i) 8)) rfl ⟨by omega, by omega⟩ hB ht6 (I 1034 (I (tX i) 8) - 1).toNat 1 1 l K P I (by omega) (Int.le_refl _) (Or.inr rfl) hC hV hN InE.rf (by omega)
    refine ⟨l2, c2, n2, K2, P2, q1, q2.t, q3, ?_⟩
    have tl := ins_tail (J := J) (l0 := l) (C := c2) (N := n2) (cs := 0 + c2) (ns := 0 + n2) q1c q1 q1' hB ht6 h0 q1'' (q4.iff (W' := fun _ => False) (Y' := insY I i) (c' := 5) (fun _ _ _ => Iff.rfl) (fun t y => ⟨fun z => Or.inr z, fun z => z.elim (fun w => absurd hk w.1) id⟩) (by omega)) rfl (by omega) (by omega)
    have l9 := q5 c2 n2 0 0 _ (by omega) (by omega) tl
    refine Sp.ofV (by decide) (Or.inr rfl) rfl ?_
    clear q5 tl
    refine VW.aload_n (pc' := 1) d_Trial_allowsInsert_0 rfl rfl ?_
    refine VW.gI (ci := 8) (T := T8) (N := 19) (k := 8) (k' := 8) (pc' := 4) d_Trial_allowsInsert_1 rfl lk_Trial_59 in8 rfl rfl rfl rfl (by first | exact hC.k 13 rfl | exact hC.k 14 rfl | exact hC.k 15 rfl | exact hC.k 16 rfl | exact hC.k 17 rfl | exact hC.k 18 rfl | exact hC.k 19 rfl | exact hC.k 20 rfl | exact hC.k 2 rfl | exact hC.k 3 rfl | exact hC.k 6 rfl | exact hC.k 7 rfl | exact hV.k | exact hV.rows.1 | exact hV.pw.2) (by first | exact hC.p 22 rfl | exact hC.p 23 rfl | exact hC.p 24 rfl | exact hC.p 25 rfl | exact hC.p 26 rfl | exact hC.p 27 rfl | exact hC.p 28 rfl | exact hC.p 29 rfl | exact hC.p 9 rfl | exact hC.p 12 rfl | exact hC.p 13 rfl | exact hV.pr | exact hV.pw.1 | rfl) ?_
    refine VW.istore_n (pc' := 5) d_Trial_allowsInsert_4 rfl rfl ?_
    refine VW.aload_n (pc' := 6) d_Trial_allowsInsert_5 rfl rfl ?_
    refine VW.gI (ci := 8) (T := T8) (N := 19) (k := 9) (k' := 9) (pc' := 9) d_Trial_allowsInsert_6 rfl lk_Trial_62 in8 rfl rfl rfl rfl (by first | exact hC.k 13 rfl | exact hC.k 14 rfl | exact hC.k 15 rfl | exact hC.k 16 rfl | exact hC.k 17 rfl | exact hC.k 18 rfl | exact hC.k 19 rfl | exact hC.k 20 rfl | exact hC.k 2 rfl | exact hC.k 3 rfl | exact hC.k 6 rfl | exact hC.k 7 rfl | exact hV.k | exact hV.rows.1 | exact hV.pw.2) (by first | exact hC.p 22 rfl | exact hC.p 23 rfl | exact hC.p 24 rfl | exact hC.p 25 rfl | exact hC.p 26 rfl | exact hC.p 27 rfl | exact hC.p 28 rfl | exact hC.p 29 rfl | exact hC.p 9 rfl | exact hC.p 12 rfl | exact hC.p 13 rfl | exact hV.pr | exact hV.pw.1 | rfl) ?_
    refine VW.ldc (pc' := 11) (z := -2147483648) d_Trial_allowsInsert_9 rfl lk_Trial_75 (by decide) (by decide) ?_
    refine VW.icmp_eq (tgt := 23) (pc' := 14) d_Trial_allowsInsert_11 rfl rfl (fun c11 => ?_) (fun c11 => ?_)
    case refine_2 => exact absurd c11 (by omega)
    refine VW.iconst (pc' := 24) d_Trial_allowsInsert_23 rfl (by decide) ?_
    refine VW.istore_n (pc' := 25) d_Trial_allowsInsert_24 rfl rfl ?_
    refine VW.iconst (pc' := 26) d_Trial_allowsInsert_25 rfl (by decide) ?_
    refine VW.istore (pc' := 28) d_Trial_allowsInsert_26 rfl rfl ?_
    refine VW.pick [0, 1, 2, 3, 4] ?_
    exact l9
  · obtain ⟨l1, c1, n1, K1, P1, I1, ⟨v1, v2⟩, f1, r1, k1, k2, -, sp⟩ := readKey_ex (J := J) (t := I (tX i) 8) (y := I (tX i) 9) hV hN ht6 (by omega)
    have d1 := RdD.key k1 k2
    have E1 : InE I I1 i := InE.rf.tr f1 d1
    have C1 := hC.tx f1
    obtain ⟨l2, c2, n2, K2, P2, I2, ⟨q1, q1', q1'', q1c⟩, q2, q3, q4, q5⟩ := ins_loop (J := J) (I0 := I) (n := 0) (i := i) (m := m) (w := I 1034 (I (tX i) 8)) rfl ⟨by omega, by omega⟩ hB ht6 (I 1034 (I (tX i) 8) - 1).toNat 1 1 l1 K1 P1 I1 (by omega) (Int.le_refl _) (Or.inr rfl) C1 v1 v2 E1 (by have := d1.2.1; omega)
    refine ⟨l2, c1 + c2, n1 + n2, K2, P2, q1, f1.t.tr q2.t, ⟨by omega, by omega⟩, ?_⟩
    have tl := ins_tail (J := J) (l0 := l) (C := c1 + c2) (N := n1 + n2) (cs := 0 + c1 + c2) (ns := 0 + n1 + n2) q1c q1 q1' hB ht6 h0 q1'' ((d1.tr q4).iff (W' := fun _ => False) (Y' := insY I i) (c' := 5) (fun _ _ _ => ⟨fun z => z.elim id id, False.elim⟩) (fun t y => ⟨fun z => z.elim (fun w => Or.inl ⟨hk, w⟩) Or.inr, fun z => z.elim (fun w => Or.inl w.2) Or.inr⟩) (by omega)) rfl (by omega) (by omega)
    have l9 := q5 (c1 + c2) (n1 + n2) (0 + c1) (0 + n1) _ (by omega) (by omega) tl
    have e8 : I1 (tX i) 8 = I (tX i) 8 := E1.1 8 (by decide) (by decide)
    refine Sp.ofV (by decide) (Or.inr rfl) rfl ?_
    clear q5 tl
    refine VW.aload_n (pc' := 1) d_Trial_allowsInsert_0 rfl rfl ?_
    refine VW.gI (ci := 8) (T := T8) (N := 19) (k := 8) (k' := 8) (pc' := 4) d_Trial_allowsInsert_1 rfl lk_Trial_59 in8 rfl rfl rfl rfl (by first | exact hC.k 13 rfl | exact hC.k 14 rfl | exact hC.k 15 rfl | exact hC.k 16 rfl | exact hC.k 17 rfl | exact hC.k 18 rfl | exact hC.k 19 rfl | exact hC.k 20 rfl | exact hC.k 2 rfl | exact hC.k 3 rfl | exact hC.k 6 rfl | exact hC.k 7 rfl | exact hV.k | exact hV.rows.1 | exact hV.pw.2) (by first | exact hC.p 22 rfl | exact hC.p 23 rfl | exact hC.p 24 rfl | exact hC.p 25 rfl | exact hC.p 26 rfl | exact hC.p 27 rfl | exact hC.p 28 rfl | exact hC.p 29 rfl | exact hC.p 9 rfl | exact hC.p 12 rfl | exact hC.p 13 rfl | exact hV.pr | exact hV.pw.1 | rfl) ?_
    refine VW.istore_n (pc' := 5) d_Trial_allowsInsert_4 rfl rfl ?_
    refine VW.aload_n (pc' := 6) d_Trial_allowsInsert_5 rfl rfl ?_
    refine VW.gI (ci := 8) (T := T8) (N := 19) (k := 9) (k' := 9) (pc' := 9) d_Trial_allowsInsert_6 rfl lk_Trial_62 in8 rfl rfl rfl rfl (by first | exact hC.k 13 rfl | exact hC.k 14 rfl | exact hC.k 15 rfl | exact hC.k 16 rfl | exact hC.k 17 rfl | exact hC.k 18 rfl | exact hC.k 19 rfl | exact hC.k 20 rfl | exact hC.k 2 rfl | exact hC.k 3 rfl | exact hC.k 6 rfl | exact hC.k 7 rfl | exact hV.k | exact hV.rows.1 | exact hV.pw.2) (by first | exact hC.p 22 rfl | exact hC.p 23 rfl | exact hC.p 24 rfl | exact hC.p 25 rfl | exact hC.p 26 rfl | exact hC.p 27 rfl | exact hC.p 28 rfl | exact hC.p 29 rfl | exact hC.p 9 rfl | exact hC.p 12 rfl | exact hC.p 13 rfl | exact hV.pr | exact hV.pw.1 | rfl) ?_
    refine VW.ldc (pc' := 11) (z := -2147483648) d_Trial_allowsInsert_9 rfl lk_Trial_75 (by decide) (by decide) ?_
    refine VW.icmp_eq (tgt := 23) (pc' := 14) d_Trial_allowsInsert_11 rfl rfl (fun c11 => ?_) (fun c11 => ?_)
    case refine_1 => exact absurd c11 (by omega)
    refine VW.aload_n (pc' := 15) d_Trial_allowsInsert_14 rfl rfl ?_
    refine VW.iload_n (pc' := 16) d_Trial_allowsInsert_15 rfl rfl ?_
    refine VW.aload_n (pc' := 17) d_Trial_allowsInsert_16 rfl rfl ?_
    refine VW.gI (ci := 8) (T := T8) (N := 19) (k := 9) (k' := 9) (pc' := 20) d_Trial_allowsInsert_17 rfl lk_Trial_62 in8 rfl rfl rfl rfl (by first | exact hC.k 13 rfl | exact hC.k 14 rfl | exact hC.k 15 rfl | exact hC.k 16 rfl | exact hC.k 17 rfl | exact hC.k 18 rfl | exact hC.k 19 rfl | exact hC.k 20 rfl | exact hC.k 2 rfl | exact hC.k 3 rfl | exact hC.k 6 rfl | exact hC.k 7 rfl | exact hV.k | exact hV.rows.1 | exact hV.pw.2) (by first | exact hC.p 22 rfl | exact hC.p 23 rfl | exact hC.p 24 rfl | exact hC.p 25 rfl | exact hC.p 26 rfl | exact hC.p 27 rfl | exact hC.p 28 rfl | exact hC.p 29 rfl | exact hC.p 9 rfl | exact hC.p 12 rfl | exact hC.p 13 rfl | exact hV.pr | exact hV.pw.1 | rfl) ?_
    refine VW.cV (ci := 8) (T := T8) (N := 19) (pc' := 23) d_Trial_allowsInsert_20 rfl mv_Transaction_readKey lk_Trial_65 rfl (by first | exact hC.k 13 rfl | exact hC.k 14 rfl | exact hC.k 15 rfl | exact hC.k 16 rfl | exact hC.k 17 rfl | exact hC.k 18 rfl | exact hC.k 19 rfl | exact hC.k 20 rfl | exact hC.k 2 rfl | exact hC.k 3 rfl | exact hC.k 6 rfl | exact hC.k 7 rfl | exact hV.k | exact hV.rows.1 | exact hV.pw.2) rfl rfl rfl (by show 0 + c1 ≤ c1 + c2; omega) (by show 0 + n1 ≤ n1 + n2; omega) (sp) rfl rfl ?_
    refine VW.iconst (pc' := 24) d_Trial_allowsInsert_23 rfl (by decide) ?_
    refine VW.istore_n (pc' := 25) d_Trial_allowsInsert_24 rfl rfl ?_
    refine VW.iconst (pc' := 26) d_Trial_allowsInsert_25 rfl (by decide) ?_
    refine VW.istore (pc' := 28) d_Trial_allowsInsert_26 rfl rfl ?_
    refine VW.pick [0, 1, 2, 3, 4] ?_
    exact l9
end
