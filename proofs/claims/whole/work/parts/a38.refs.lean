section
variable {K : KT} {P : PT} {J I : IT}
/-- tables that are read because rows go: of places below p, and of place p those tables below t -/
def refW (I : IT) (p t : Int) (t' : Int) : Prop := ∃ q, 0 ≤ q ∧ q < 48 ∧ (q < p ∨ (q = p ∧ t' < t)) ∧ I 1099 q ≠ 0 ∧ t' < I 1032 0 ∧ scRef I 1034 1037 t' (q / 8) = 1
def RdN (K : KT) (P : PT) (I T : IT) (i l m : Nat) (W : Int → Prop) : Prop := TxN T i l m ∧ Fr (nTx i) K P I K P T ∧ RdD I T i l l m W (fun _ _ => False) 0
theorem RdN.iff {T : IT} {i l m : Nat} {W W' : Int → Prop} (h : RdN K P I T i l m W) (hW : ∀ t, 0 ≤ t → t < 6 → (W t ↔ W' t)) : RdN K P I T i l m W' := ⟨h.1, h.2.1, h.2.2.iff hW (fun _ _ => Iff.rfl) (Int.le_refl _)⟩
theorem nTx_hi {i o : Nat} (h : o < 2000) : ¬ nTx i o := fun z => by unfold nTx tX at z; omega
theorem sp_Trial_readReferring {i l m : Nat} (hC : ClW K P) (hV : TxV K P i l m) (hN : TxN I i l m) (hs : 0 ≤ I 1032 0 ∧ I 1032 0 ≤ 6) (hw : ∀ t, 0 ≤ t → t < I 1032 0 → 1 ≤ I 1034 t ∧ I 1034 t ≤ 4) : Sp m_Trial_readReferring false (rmv 2 50) (exU K P J (.inl none) (fun T => RdN K P I T i l m (fun t => ∃ q, 0 ≤ q ∧ q < 48 ∧ I 1099 q ≠ 0 ∧ t < I 1032 0 ∧ scRef I 1034 1037 t (q / 8) = 1))) K P J I [vR (some 1096), vR (some (tX i))] := by
  refine Sp.ofV (by decide) (Or.inr rfl) rfl ?_
  have outer : ∀ (w : Nat) (p : Int) (T : IT), p + w = 48 → 0 ≤ p → RdN K P I T i l m (refW I p 0) → VW m_Trial_readReferring false (rmv 2 50) (exU K P J (.inl none) (fun T => RdN K P I T i l m (fun t => ∃ q, 0 ≤ q ∧ q < 48 ∧ I 1099 q ≠ 0 ∧ t < I 1032 0 ∧ scRef I 1034 1037 t (q / 8) = 1))) K P J T 0 0 2 [(0, vR (some 1096)), (1, vR (some (tX i))), (2, vI p)] [] := by
    intro w
    induction w with
    | zero =>
      intro p T hp h0 h
      have ep : p = 48 := by omega
      subst ep
      have fin := h.iff (W' := fun t => ∃ q, 0 ≤ q ∧ q < 48 ∧ I 1099 q ≠ 0 ∧ t < I 1032 0 ∧ scRef I 1034 1037 t (q / 8) = 1) (fun t _ _ => ⟨fun ⟨q, a, b, _, d⟩ => ⟨q, a, b, d⟩, fun ⟨q, a, b, d⟩ => ⟨q, a, b, Or.inl b, d⟩⟩)
      refine VW.iload_n (pc' := 3) d_Trial_readReferring_2 rfl rfl ?_
      refine VW.bipush (pc' := 5) d_Trial_readReferring_3 rfl (by decide) ?_
      refine VW.icmp_ge (tgt := 62) (pc' := 8) d_Trial_readReferring_5 rfl rfl (fun c5 => ?_) (fun c5 => ?_)
      case refine_2 => exact absurd c5 (by omega)
      exact VW.vret d_Trial_readReferring_62 rfl (Nat.zero_le _) (Nat.zero_le _) (⟨rfl, rfl, rfl, rfl, fin⟩)
    | succ w ih =>
      intro p T hp h0 h
      have nx := fun (T' : IT) (h' : RdN K P I T' i l m (refW I (p + 1) 0)) => ih (p + 1) T' (by omega) (by omega) h'
      clear ih
      have p8 : p.tdiv 8 = p / 8 := Int.tdiv_eq_ediv_of_nonneg h0
      have inner : ∀ (w2 : Nat) (t : Int) (T2 : IT), t + w2 = I 1032 0 → 0 ≤ t → RdN K P I T2 i l m (refW I p t) → VW m_Trial_readReferring false (rmv 2 50) (exU K P J (.inl none) (fun T => RdN K P I T i l m (fun t => ∃ q, 0 ≤ q ∧ q < 48 ∧ I 1099 q ≠ 0 ∧ t < I 1032 0 ∧ scRef I 1034 1037 t (q / 8) = 1))) K P J T2 0 0 10 [(0, vR (some 1096)), (1, vR (some (tX i))), (2, vI p), (3, vI t)] [] := by
        intro w2
        induction w2 with
        | zero =>
          intro t T2 ht t0 g
          have e0 : T2 1032 0 = I 1032 0 := congrFun (g.2.1 1032 (nTx_hi (by decide))).2.2 0
          have n9 := nx T2 (g.iff (fun t' _ _ => ⟨fun ⟨q, a, b, c, d⟩ => ⟨q, a, b, c.elim (fun z => Or.inl (by omega)) (fun z => Or.inl (by omega)), d⟩, fun ⟨q, a, b, c, d, e, f⟩ => ⟨q, a, b, c.elim (fun z => by
            by_cases qp : q = p
            · exact Or.inr ⟨qp, by omega⟩
            · exact Or.inl (by omega)) (fun z => by
            by_cases qp : q = p
            · exact Or.inr ⟨qp, by omega⟩
            · omega), d, e, f⟩⟩))
          clear nx
          refine VW.iload_n (pc' := 11) d_Trial_readReferring_10 rfl rfl ?_
          refine VW.aload_n (pc' := 12) d_Trial_readReferring_11 rfl rfl ?_
          refine VW.gP (ci := 9) (T := T9) (N := 8) (k := 0) (k' := 0) (pc' := 15) d_Trial_readReferring_12 rfl lk_Trial_35 in9 rfl rfl rfl rfl (by first | exact hC.k 13 rfl | exact hC.k 14 rfl | exact hC.k 15 rfl | exact hC.k 16 rfl | exact hC.k 17 rfl | exact hC.k 18 rfl | exact hC.k 19 rfl | exact hC.k 20 rfl | exact hC.k 2 rfl | exact hC.k 3 rfl | exact hC.k 6 rfl | exact hC.k 7 rfl) (by first | exact hC.p 22 rfl | exact hC.p 23 rfl | exact hC.p 24 rfl | exact hC.p 25 rfl | exact hC.p 26 rfl | exact hC.p 27 rfl | exact hC.p 28 rfl | exact hC.p 29 rfl | exact hC.p 9 rfl | exact hC.p 12 rfl | exact hC.p 13 rfl | exact e0 | rfl) ?_
          refine VW.gI (ci := 7) (T := T7) (N := 8) (k := 0) (k' := 0) (pc' := 18) d_Trial_readReferring_15 rfl lk_Trial_166 in7 rfl rfl rfl rfl (by first | exact hC.k 13 rfl | exact hC.k 14 rfl | exact hC.k 15 rfl | exact hC.k 16 rfl | exact hC.k 17 rfl | exact hC.k 18 rfl | exact hC.k 19 rfl | exact hC.k 20 rfl | exact hC.k 2 rfl | exact hC.k 3 rfl | exact hC.k 6 rfl | exact hC.k 7 rfl) (by first | exact hC.p 22 rfl | exact hC.p 23 rfl | exact hC.p 24 rfl | exact hC.p 25 rfl | exact hC.p 26 rfl | exact hC.p 27 rfl | exact hC.p 28 rfl | exact hC.p 29 rfl | exact hC.p 9 rfl | exact hC.p 12 rfl | exact hC.p 13 rfl | exact e0 | rfl) ?_
          refine VW.icmp_ge (tgt := 56) (pc' := 21) d_Trial_readReferring_18 rfl rfl (fun c18 => ?_) (fun c18 => ?_)
          case refine_2 => exact absurd c18 (by omega)
          refine VW.iinc (pc' := 59) d_Trial_readReferring_56 rfl rfl rfl (by omega) ?_
          refine VW.goto (pc' := 2) d_Trial_readReferring_59 rfl ?_
          refine VW.pick [0, 1, 2] ?_
          exact n9
        | succ w2 ih2 =>
          intro t T2 ht t0 g
          have e0 : T2 1032 0 = I 1032 0 := congrFun (g.2.1 1032 (nTx_hi (by decide))).2.2 0
          have e9 : T2 1099 p = I 1099 p := congrFun (g.2.1 1099 (nTx_hi (by decide))).2.2 p
          have w34 : T2 1034 = I 1034 := (g.2.1 1034 (nTx_hi (by decide))).2.2
          have w37 : T2 1037 = I 1037 := (g.2.1 1037 (nTx_hi (by decide))).2.2
          have hw' := hw t t0 (by omega)
          have rw' : 1 ≤ T2 1034 t ∧ T2 1034 t ≤ 4 := by rw [w34]; exact hw'
          have er : scRef T2 1034 1037 t (p / 8) = scRef I 1034 1037 t (p / 8) := by
            unfold scRef
            rw [w34, w37]
          by_cases hg : I 1099 p = 0
          · have n9 := nx T2 (g.iff (fun t' _ _ => ⟨fun ⟨q, a, b, c, d⟩ => ⟨q, a, b, c.elim (fun z => Or.inl (by omega)) (fun z => Or.inl (by omega)), d⟩, fun ⟨q, a, b, c, d, e, f⟩ => ⟨q, a, b, c.elim (fun z => by
              by_cases qp : q = p
              · exact absurd (by rw [qp]; exact hg) d
              · exact Or.inl (by omega)) (fun z => by omega), d, e, f⟩⟩))
            clear nx ih2
            refine VW.iload_n (pc' := 11) d_Trial_readReferring_10 rfl rfl ?_
            refine VW.aload_n (pc' := 12) d_Trial_readReferring_11 rfl rfl ?_
            refine VW.gP (ci := 9) (T := T9) (N := 8) (k := 0) (k' := 0) (pc' := 15) d_Trial_readReferring_12 rfl lk_Trial_35 in9 rfl rfl rfl rfl (by first | exact hC.k 13 rfl | exact hC.k 14 rfl | exact hC.k 15 rfl | exact hC.k 16 rfl | exact hC.k 17 rfl | exact hC.k 18 rfl | exact hC.k 19 rfl | exact hC.k 20 rfl | exact hC.k 2 rfl | exact hC.k 3 rfl | exact hC.k 6 rfl | exact hC.k 7 rfl) (by first | exact hC.p 22 rfl | exact hC.p 23 rfl | exact hC.p 24 rfl | exact hC.p 25 rfl | exact hC.p 26 rfl | exact hC.p 27 rfl | exact hC.p 28 rfl | exact hC.p 29 rfl | exact hC.p 9 rfl | exact hC.p 12 rfl | exact hC.p 13 rfl | exact e0 | exact e9 | rfl) ?_
            refine VW.gI (ci := 7) (T := T7) (N := 8) (k := 0) (k' := 0) (pc' := 18) d_Trial_readReferring_15 rfl lk_Trial_166 in7 rfl rfl rfl rfl (by first | exact hC.k 13 rfl | exact hC.k 14 rfl | exact hC.k 15 rfl | exact hC.k 16 rfl | exact hC.k 17 rfl | exact hC.k 18 rfl | exact hC.k 19 rfl | exact hC.k 20 rfl | exact hC.k 2 rfl | exact hC.k 3 rfl | exact hC.k 6 rfl | exact hC.k 7 rfl) (by first | exact hC.p 22 rfl | exact hC.p 23 rfl | exact hC.p 24 rfl | exact hC.p 25 rfl | exact hC.p 26 rfl | exact hC.p 27 rfl | exact hC.p 28 rfl | exact hC.p 29 rfl | exact hC.p 9 rfl | exact hC.p 12 rfl | exact hC.p 13 rfl | exact e0 | exact e9 | rfl) ?_
            refine VW.icmp_ge (tgt := 56) (pc' := 21) d_Trial_readReferring_18 rfl rfl (fun c18 => ?_) (fun c18 => ?_)
            case refine_1 => exact absurd c18 (by omega)
            refine VW.aload_n (pc' := 22) d_Trial_readReferring_21 rfl rfl ?_
            refine VW.gP (ci := 9) (T := T9) (N := 8) (k := 2) (k' := 2) (pc' := 25) d_Trial_readReferring_22 rfl lk_Trial_18 in9 rfl rfl rfl rfl (by first | exact hC.k 13 rfl | exact hC.k 14 rfl | exact hC.k 15 rfl | exact hC.k 16 rfl | exact hC.k 17 rfl | exact hC.k 18 rfl | exact hC.k 19 rfl | exact hC.k 20 rfl | exact hC.k 2 rfl | exact hC.k 3 rfl | exact hC.k 6 rfl | exact hC.k 7 rfl) (by first | exact hC.p 22 rfl | exact hC.p 23 rfl | exact hC.p 24 rfl | exact hC.p 25 rfl | exact hC.p 26 rfl | exact hC.p 27 rfl | exact hC.p 28 rfl | exact hC.p 29 rfl | exact hC.p 9 rfl | exact hC.p 12 rfl | exact hC.p 13 rfl | exact e0 | exact e9 | rfl) ?_
            refine VW.iload_n (pc' := 26) d_Trial_readReferring_25 rfl rfl ?_
            refine VW.zld (pc' := 27) d_Trial_readReferring_26 rfl (by first | exact hC.k 13 rfl | exact hC.k 14 rfl | exact hC.k 15 rfl | exact hC.k 16 rfl | exact hC.k 17 rfl | exact hC.k 18 rfl | exact hC.k 19 rfl | exact hC.k 20 rfl | exact hC.k 2 rfl | exact hC.k 3 rfl | exact hC.k 6 rfl | exact hC.k 7 rfl) (by omega) (by omega) (by first | exact hC.p 22 rfl | exact hC.p 23 rfl | exact hC.p 24 rfl | exact hC.p 25 rfl | exact hC.p 26 rfl | exact hC.p 27 rfl | exact hC.p 28 rfl | exact hC.p 29 rfl | exact hC.p 9 rfl | exact hC.p 12 rfl | exact hC.p 13 rfl | exact e0 | exact e9 | rfl) ?_
            refine VW.if_eq (tgt := 56) (pc' := 30) d_Trial_readReferring_27 rfl rfl (fun c27 => ?_) (fun c27 => ?_)
            case refine_2 => exact absurd c27 (by omega)
            refine VW.iinc (pc' := 59) d_Trial_readReferring_56 rfl rfl rfl (by omega) ?_
            refine VW.goto (pc' := 2) d_Trial_readReferring_59 rfl ?_
            refine VW.pick [0, 1, 2] ?_
            exact n9
          · by_cases hr : scRef I 1034 1037 t (p / 8) = 1
            · obtain ⟨T3, f1, f2, f3, sp⟩ := wh_ex (J := J) (t := t) hV g.1 ⟨t0, by omega⟩
              have n9 := ih2 (t + 1) T3 (by omega) (by omega) ⟨f1, g.2.1.tr f2, (g.2.2.tr f3).iff (fun t' a b => ⟨fun z => z.elim (fun ⟨q, a, b, c, d⟩ => ⟨q, a, b, c.elim Or.inl (fun y => Or.inr ⟨y.1, by omega⟩), d⟩) (fun z => ⟨p, h0, by omega, Or.inr ⟨rfl, by omega⟩, hg, by omega, by rw [z]; exact hr⟩), fun ⟨q, a, b, c, d⟩ => c.elim (fun y => Or.inl ⟨q, a, b, Or.inl y, d⟩) (fun y => by
                by_cases tt' : t' = t
                · exact Or.inr tt'
                · exact Or.inl ⟨q, a, b, Or.inr ⟨y.1, by omega⟩, d⟩)⟩) (fun t' y => ⟨fun z => z.elim id id, False.elim⟩) (by omega)⟩
              clear nx ih2
              refine VW.iload_n (pc' := 11) d_Trial_readReferring_10 rfl rfl ?_
              refine VW.aload_n (pc' := 12) d_Trial_readReferring_11 rfl rfl ?_
              refine VW.gP (ci := 9) (T := T9) (N := 8) (k := 0) (k' := 0) (pc' := 15) d_Trial_readReferring_12 rfl lk_Trial_35 in9 rfl rfl rfl rfl (by first | exact hC.k 13 rfl | exact hC.k 14 rfl | exact hC.k 15 rfl | exact hC.k 16 rfl | exact hC.k 17 rfl | exact hC.k 18 rfl | exact hC.k 19 rfl | exact hC.k 20 rfl | exact hC.k 2 rfl | exact hC.k 3 rfl | exact hC.k 6 rfl | exact hC.k 7 rfl | exact hV.1.1) (by first | exact hC.p 22 rfl | exact hC.p 23 rfl | exact hC.p 24 rfl | exact hC.p 25 rfl | exact hC.p 26 rfl | exact hC.p 27 rfl | exact hC.p 28 rfl | exact hC.p 29 rfl | exact hC.p 9 rfl | exact hC.p 12 rfl | exact hC.p 13 rfl | exact e0 | exact e9 | rfl) ?_
              refine VW.gI (ci := 7) (T := T7) (N := 8) (k := 0) (k' := 0) (pc' := 18) d_Trial_readReferring_15 rfl lk_Trial_166 in7 rfl rfl rfl rfl (by first | exact hC.k 13 rfl | exact hC.k 14 rfl | exact hC.k 15 rfl | exact hC.k 16 rfl | exact hC.k 17 rfl | exact hC.k 18 rfl | exact hC.k 19 rfl | exact hC.k 20 rfl | exact hC.k 2 rfl | exact hC.k 3 rfl | exact hC.k 6 rfl | exact hC.k 7 rfl | exact hV.1.1) (by first | exact hC.p 22 rfl | exact hC.p 23 rfl | exact hC.p 24 rfl | exact hC.p 25 rfl | exact hC.p 26 rfl | exact hC.p 27 rfl | exact hC.p 28 rfl | exact hC.p 29 rfl | exact hC.p 9 rfl | exact hC.p 12 rfl | exact hC.p 13 rfl | exact e0 | exact e9 | rfl) ?_
              refine VW.icmp_ge (tgt := 56) (pc' := 21) d_Trial_readReferring_18 rfl rfl (fun c18 => ?_) (fun c18 => ?_)
              case refine_1 => exact absurd c18 (by omega)
              refine VW.aload_n (pc' := 22) d_Trial_readReferring_21 rfl rfl ?_
              refine VW.gP (ci := 9) (T := T9) (N := 8) (k := 2) (k' := 2) (pc' := 25) d_Trial_readReferring_22 rfl lk_Trial_18 in9 rfl rfl rfl rfl (by first | exact hC.k 13 rfl | exact hC.k 14 rfl | exact hC.k 15 rfl | exact hC.k 16 rfl | exact hC.k 17 rfl | exact hC.k 18 rfl | exact hC.k 19 rfl | exact hC.k 20 rfl | exact hC.k 2 rfl | exact hC.k 3 rfl | exact hC.k 6 rfl | exact hC.k 7 rfl | exact hV.1.1) (by first | exact hC.p 22 rfl | exact hC.p 23 rfl | exact hC.p 24 rfl | exact hC.p 25 rfl | exact hC.p 26 rfl | exact hC.p 27 rfl | exact hC.p 28 rfl | exact hC.p 29 rfl | exact hC.p 9 rfl | exact hC.p 12 rfl | exact hC.p 13 rfl | exact e0 | exact e9 | rfl) ?_
              refine VW.iload_n (pc' := 26) d_Trial_readReferring_25 rfl rfl ?_
              refine VW.zld (pc' := 27) d_Trial_readReferring_26 rfl (by first | exact hC.k 13 rfl | exact hC.k 14 rfl | exact hC.k 15 rfl | exact hC.k 16 rfl | exact hC.k 17 rfl | exact hC.k 18 rfl | exact hC.k 19 rfl | exact hC.k 20 rfl | exact hC.k 2 rfl | exact hC.k 3 rfl | exact hC.k 6 rfl | exact hC.k 7 rfl | exact hV.1.1) (by omega) (by omega) (by first | exact hC.p 22 rfl | exact hC.p 23 rfl | exact hC.p 24 rfl | exact hC.p 25 rfl | exact hC.p 26 rfl | exact hC.p 27 rfl | exact hC.p 28 rfl | exact hC.p 29 rfl | exact hC.p 9 rfl | exact hC.p 12 rfl | exact hC.p 13 rfl | exact e0 | exact e9 | rfl) ?_
              refine VW.if_eq (tgt := 56) (pc' := 30) d_Trial_readReferring_27 rfl rfl (fun c27 => ?_) (fun c27 => ?_)
              case refine_1 => exact absurd c27 (by omega)
              refine VW.aload_n (pc' := 31) d_Trial_readReferring_30 rfl rfl ?_
              refine VW.gP (ci := 9) (T := T9) (N := 8) (k := 0) (k' := 0) (pc' := 34) d_Trial_readReferring_31 rfl lk_Trial_35 in9 rfl rfl rfl rfl (by first | exact hC.k 13 rfl | exact hC.k 14 rfl | exact hC.k 15 rfl | exact hC.k 16 rfl | exact hC.k 17 rfl | exact hC.k 18 rfl | exact hC.k 19 rfl | exact hC.k 20 rfl | exact hC.k 2 rfl | exact hC.k 3 rfl | exact hC.k 6 rfl | exact hC.k 7 rfl | exact hV.1.1) (by first | exact hC.p 22 rfl | exact hC.p 23 rfl | exact hC.p 24 rfl | exact hC.p 25 rfl | exact hC.p 26 rfl | exact hC.p 27 rfl | exact hC.p 28 rfl | exact hC.p 29 rfl | exact hC.p 9 rfl | exact hC.p 12 rfl | exact hC.p 13 rfl | exact e0 | exact e9 | rfl) ?_
              refine VW.iload_n (pc' := 35) d_Trial_readReferring_34 rfl rfl ?_
              refine VW.iload_n (pc' := 36) d_Trial_readReferring_35 rfl rfl ?_
              refine VW.bipush (pc' := 38) d_Trial_readReferring_36 rfl (by decide) ?_
              refine VW.idiv (pc' := 39) d_Trial_readReferring_38 rfl (by omega) (by omega) ?_
              rw [p8]
              refine VW.cV (ci := 7) (T := T7) (N := 8) (pc' := 42) d_Trial_readReferring_39 rfl mv_Schema_refersTo lk_Trial_168 rfl (by first | exact hC.k 13 rfl | exact hC.k 14 rfl | exact hC.k 15 rfl | exact hC.k 16 rfl | exact hC.k 17 rfl | exact hC.k 18 rfl | exact hC.k 19 rfl | exact hC.k 20 rfl | exact hC.k 2 rfl | exact hC.k 3 rfl | exact hC.k 6 rfl | exact hC.k 7 rfl | exact hV.1.1) rfl rfl rfl (Nat.le_refl _) (Nat.le_refl _) (sp_Schema_refersTo hC.sc ⟨t0, by omega⟩ rw') rfl rfl ?_
              rw [er, hr]
              refine VW.if_eq (tgt := 50) (pc' := 45) d_Trial_readReferring_42 rfl rfl (fun c42 => ?_) (fun c42 => ?_)
              case refine_1 => exact absurd c42 (by decide)
              refine VW.aload_n (pc' := 46) d_Trial_readReferring_45 rfl rfl ?_
              refine VW.iload_n (pc' := 47) d_Trial_readReferring_46 rfl rfl ?_
              refine VW.cV (ci := 8) (T := T8) (N := 19) (pc' := 50) d_Trial_readReferring_47 rfl mv_Transaction_readWhole lk_Trial_171 rfl (by first | exact hC.k 13 rfl | exact hC.k 14 rfl | exact hC.k 15 rfl | exact hC.k 16 rfl | exact hC.k 17 rfl | exact hC.k 18 rfl | exact hC.k 19 rfl | exact hC.k 20 rfl | exact hC.k 2 rfl | exact hC.k 3 rfl | exact hC.k 6 rfl | exact hC.k 7 rfl | exact hV.1.1) rfl rfl rfl (Nat.le_refl _) (Nat.le_refl _) (sp) rfl rfl ?_
              refine VW.iinc (pc' := 53) d_Trial_readReferring_50 rfl rfl rfl (by omega) ?_
              refine VW.goto (pc' := 10) d_Trial_readReferring_53 rfl ?_
              refine VW.pick [0, 1, 2, 3] ?_
              exact n9
            · have r0 : scRef I 1034 1037 t (p / 8) = 0 := (bI_01 _).resolve_right hr
              have n9 := ih2 (t + 1) T2 (by omega) (by omega) (g.iff (fun t' a b => ⟨fun ⟨q, a, b, c, d⟩ => ⟨q, a, b, c.elim Or.inl (fun y => Or.inr ⟨y.1, by omega⟩), d⟩, fun ⟨q, a, b, c, d, e, f⟩ => c.elim (fun y => ⟨q, a, b, Or.inl y, d, e, f⟩) (fun y => by
                by_cases tt' : t' = t
                · rw [tt', y.1] at f; exact absurd f hr
                · exact ⟨q, a, b, Or.inr ⟨y.1, by omega⟩, d, e, f⟩)⟩))
              clear nx ih2
              refine VW.iload_n (pc' := 11) d_Trial_readReferring_10 rfl rfl ?_
              refine VW.aload_n (pc' := 12) d_Trial_readReferring_11 rfl rfl ?_
              refine VW.gP (ci := 9) (T := T9) (N := 8) (k := 0) (k' := 0) (pc' := 15) d_Trial_readReferring_12 rfl lk_Trial_35 in9 rfl rfl rfl rfl (by first | exact hC.k 13 rfl | exact hC.k 14 rfl | exact hC.k 15 rfl | exact hC.k 16 rfl | exact hC.k 17 rfl | exact hC.k 18 rfl | exact hC.k 19 rfl | exact hC.k 20 rfl | exact hC.k 2 rfl | exact hC.k 3 rfl | exact hC.k 6 rfl | exact hC.k 7 rfl) (by first | exact hC.p 22 rfl | exact hC.p 23 rfl | exact hC.p 24 rfl | exact hC.p 25 rfl | exact hC.p 26 rfl | exact hC.p 27 rfl | exact hC.p 28 rfl | exact hC.p 29 rfl | exact hC.p 9 rfl | exact hC.p 12 rfl | exact hC.p 13 rfl | exact e0 | exact e9 | rfl) ?_
              refine VW.gI (ci := 7) (T := T7) (N := 8) (k := 0) (k' := 0) (pc' := 18) d_Trial_readReferring_15 rfl lk_Trial_166 in7 rfl rfl rfl rfl (by first | exact hC.k 13 rfl | exact hC.k 14 rfl | exact hC.k 15 rfl | exact hC.k 16 rfl | exact hC.k 17 rfl | exact hC.k 18 rfl | exact hC.k 19 rfl | exact hC.k 20 rfl | exact hC.k 2 rfl | exact hC.k 3 rfl | exact hC.k 6 rfl | exact hC.k 7 rfl) (by first | exact hC.p 22 rfl | exact hC.p 23 rfl | exact hC.p 24 rfl | exact hC.p 25 rfl | exact hC.p 26 rfl | exact hC.p 27 rfl | exact hC.p 28 rfl | exact hC.p 29 rfl | exact hC.p 9 rfl | exact hC.p 12 rfl | exact hC.p 13 rfl | exact e0 | exact e9 | rfl) ?_
              refine VW.icmp_ge (tgt := 56) (pc' := 21) d_Trial_readReferring_18 rfl rfl (fun c18 => ?_) (fun c18 => ?_)
              case refine_1 => exact absurd c18 (by omega)
              refine VW.aload_n (pc' := 22) d_Trial_readReferring_21 rfl rfl ?_
              refine VW.gP (ci := 9) (T := T9) (N := 8) (k := 2) (k' := 2) (pc' := 25) d_Trial_readReferring_22 rfl lk_Trial_18 in9 rfl rfl rfl rfl (by first | exact hC.k 13 rfl | exact hC.k 14 rfl | exact hC.k 15 rfl | exact hC.k 16 rfl | exact hC.k 17 rfl | exact hC.k 18 rfl | exact hC.k 19 rfl | exact hC.k 20 rfl | exact hC.k 2 rfl | exact hC.k 3 rfl | exact hC.k 6 rfl | exact hC.k 7 rfl) (by first | exact hC.p 22 rfl | exact hC.p 23 rfl | exact hC.p 24 rfl | exact hC.p 25 rfl | exact hC.p 26 rfl | exact hC.p 27 rfl | exact hC.p 28 rfl | exact hC.p 29 rfl | exact hC.p 9 rfl | exact hC.p 12 rfl | exact hC.p 13 rfl | exact e0 | exact e9 | rfl) ?_
              refine VW.iload_n (pc' := 26) d_Trial_readReferring_25 rfl rfl ?_
              refine VW.zld (pc' := 27) d_Trial_readReferring_26 rfl (by first | exact hC.k 13 rfl | exact hC.k 14 rfl | exact hC.k 15 rfl | exact hC.k 16 rfl | exact hC.k 17 rfl | exact hC.k 18 rfl | exact hC.k 19 rfl | exact hC.k 20 rfl | exact hC.k 2 rfl | exact hC.k 3 rfl | exact hC.k 6 rfl | exact hC.k 7 rfl) (by omega) (by omega) (by first | exact hC.p 22 rfl | exact hC.p 23 rfl | exact hC.p 24 rfl | exact hC.p 25 rfl | exact hC.p 26 rfl | exact hC.p 27 rfl | exact hC.p 28 rfl | exact hC.p 29 rfl | exact hC.p 9 rfl | exact hC.p 12 rfl | exact hC.p 13 rfl | exact e0 | exact e9 | rfl) ?_
              refine VW.if_eq (tgt := 56) (pc' := 30) d_Trial_readReferring_27 rfl rfl (fun c27 => ?_) (fun c27 => ?_)
              case refine_1 => exact absurd c27 (by omega)
              refine VW.aload_n (pc' := 31) d_Trial_readReferring_30 rfl rfl ?_
              refine VW.gP (ci := 9) (T := T9) (N := 8) (k := 0) (k' := 0) (pc' := 34) d_Trial_readReferring_31 rfl lk_Trial_35 in9 rfl rfl rfl rfl (by first | exact hC.k 13 rfl | exact hC.k 14 rfl | exact hC.k 15 rfl | exact hC.k 16 rfl | exact hC.k 17 rfl | exact hC.k 18 rfl | exact hC.k 19 rfl | exact hC.k 20 rfl | exact hC.k 2 rfl | exact hC.k 3 rfl | exact hC.k 6 rfl | exact hC.k 7 rfl) (by first | exact hC.p 22 rfl | exact hC.p 23 rfl | exact hC.p 24 rfl | exact hC.p 25 rfl | exact hC.p 26 rfl | exact hC.p 27 rfl | exact hC.p 28 rfl | exact hC.p 29 rfl | exact hC.p 9 rfl | exact hC.p 12 rfl | exact hC.p 13 rfl | exact e0 | exact e9 | rfl) ?_
              refine VW.iload_n (pc' := 35) d_Trial_readReferring_34 rfl rfl ?_
              refine VW.iload_n (pc' := 36) d_Trial_readReferring_35 rfl rfl ?_
              refine VW.bipush (pc' := 38) d_Trial_readReferring_36 rfl (by decide) ?_
              refine VW.idiv (pc' := 39) d_Trial_readReferring_38 rfl (by omega) (by omega) ?_
              rw [p8]
              refine VW.cV (ci := 7) (T := T7) (N := 8) (pc' := 42) d_Trial_readReferring_39 rfl mv_Schema_refersTo lk_Trial_168 rfl (by first | exact hC.k 13 rfl | exact hC.k 14 rfl | exact hC.k 15 rfl | exact hC.k 16 rfl | exact hC.k 17 rfl | exact hC.k 18 rfl | exact hC.k 19 rfl | exact hC.k 20 rfl | exact hC.k 2 rfl | exact hC.k 3 rfl | exact hC.k 6 rfl | exact hC.k 7 rfl) rfl rfl rfl (Nat.le_refl _) (Nat.le_refl _) (sp_Schema_refersTo hC.sc ⟨t0, by omega⟩ rw') rfl rfl ?_
              rw [er, r0]
              refine VW.if_eq (tgt := 50) (pc' := 45) d_Trial_readReferring_42 rfl rfl (fun c42 => ?_) (fun c42 => ?_)
              case refine_2 => exact absurd c42 (by decide)
              refine VW.iinc (pc' := 53) d_Trial_readReferring_50 rfl rfl rfl (by omega) ?_
              refine VW.goto (pc' := 10) d_Trial_readReferring_53 rfl ?_
              refine VW.pick [0, 1, 2, 3] ?_
              exact n9
      have l9 := inner (I 1032 0).toNat 0 T (by omega) (Int.le_refl _) h
      clear inner nx
      refine VW.iload_n (pc' := 3) d_Trial_readReferring_2 rfl rfl ?_
      refine VW.bipush (pc' := 5) d_Trial_readReferring_3 rfl (by decide) ?_
      refine VW.icmp_ge (tgt := 62) (pc' := 8) d_Trial_readReferring_5 rfl rfl (fun c5 => ?_) (fun c5 => ?_)
      case refine_1 => exact absurd c5 (by omega)
      refine VW.iconst (pc' := 9) d_Trial_readReferring_8 rfl (by decide) ?_
      refine VW.istore_n (pc' := 10) d_Trial_readReferring_9 rfl rfl ?_
      refine VW.pick [0, 1, 2, 3] ?_
      exact l9
  have l9 := outer 48 0 I (by omega) (Int.le_refl _) ⟨hN, Fr.rf, RdD.rf.iff (fun t _ _ => ⟨False.elim, fun ⟨q, a, b, c, _⟩ => c.elim (fun z => by omega) (fun z => by omega)⟩) (fun _ _ => Iff.rfl) (Int.le_refl _)⟩
  clear outer
  refine VW.iconst (pc' := 1) d_Trial_readReferring_0 rfl (by decide) ?_
  refine VW.istore_n (pc' := 2) d_Trial_readReferring_1 rfl rfl ?_
  refine VW.pick [0, 1, 2] ?_
  exact l9
end
