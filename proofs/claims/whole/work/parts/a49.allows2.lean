section
variable {K : KT} {P : PT} {J I : IT}
theorem allow_ex {i l m : Nat} (hC : ClW K P) (hV : TxV K P i l m) (hN : TxN I i l m) (hB : SchB I) (ht : 0 ≤ I (tX i) 8 ∧ I (tX i) 8 < I 1032 0) (hc : I (tX i) 7 = 1 → 0 ≤ I (tX i) 10 ∧ I (tX i) 10 < 4) (hb : I (tX i) 14 + 12 < 100000) : ∃ (l' ce n : Nat) (K' : KT) (P' : PT), TxV K' P' i l' m ∧ FrT i K P K' P' ∧ (ce + 2 * l = 2 * l' ∧ n + ps l = ps l') ∧
    Sp m_Trial_allows false ({ frames := 7, cells := ce, slots := n, locals := 320 } : Room) (fun r K2 P2 J2 I2 => K2 = K' ∧ P2 = P' ∧ J2 = J ∧ TriP (alI I i) i l l' m r I2 : PQ) K P J I [vR (some 1096), vR (some (tX i))] := by
  have x0 : 2000 ≤ tX i := by unfold tX; omega
  have ah : ∀ o, 2000 ≤ o → alI I i o = I o := fun o h => alI_o (by omega) (by omega)
  have aN : TxN (alI I i) i l m := hN.hi ah
  have aB : SchB (alI I i) := hB.of ((funext (fun z => (up2_o _ _ _ _ (by decide)).trans (if_neg (fun q => absurd q.1 (by decide)))))) (alI_o (by decide) (by decide)) (alI_o (by decide) (by decide)) (alI_o (by decide) (by decide)) (alI_o (by decide) (by decide)) (alI_o (by decide) (by decide))
  have aT : alI I i (tX i) = I (tX i) := ah _ x0
  have a0 : alI I i 1096 7 = 0 := up2_eq _ _ _ _
  have a32 : alI I i 1032 = I 1032 := alI_o (by decide) (by decide)
  have t6 : I (tX i) 8 < 6 := by have := hB.1.2; omega
  have i7 : alI I i (tX i) 7 = I (tX i) 7 := congrFun aT 7
  have i8 : alI I i (tX i) 8 = I (tX i) 8 := congrFun aT 8
  have i9 : alI I i (tX i) 9 = I (tX i) 9 := congrFun aT 9
  have hd : up2 (cpyI I (tX i + 33) 0 1129 0 192) 1096 7 0 = alI I i := rfl
  by_cases k0 : I (tX i) 7 = 0
  · obtain ⟨l', ce, n, K', P', f1, f2, f3, sp⟩ := insert_ex (J := J) (I := alI I i) hC hV aN aB (by rw [aT, a32]; exact ht) a0 (by rw [aT]; omega)
    refine ⟨l', ce, n, K', P', f1, f2, f3, ?_⟩
    have fin : ∀ r T, AlP (alI I i) i l l' m (fun _ => False) (insY (alI I i) i) 5 (insOk (alI I i) i) (insRw (alI I i) i) r T → (fun r K2 P2 J2 I2 => K2 = K' ∧ P2 = P' ∧ J2 = J ∧ TriP (alI I i) i l l' m r I2 : PQ) r K' P' J T := fun r T h => ⟨rfl, rfl, rfl, fun _ => h, fun z => by rw [i7] at z; omega, fun z => absurd (by rw [i7]; exact k0) z⟩
    refine Sp.ofV (by decide) (Or.inr rfl) rfl ?_
    refine VW.aload_n (pc' := 1) d_Trial_allows_0 rfl rfl ?_
    refine VW.gP (ci := 9) (T := T9) (N := 8) (k := 1) (k' := 1) (pc' := 4) d_Trial_allows_1 rfl lk_Trial_12 in9 rfl rfl rfl rfl (by first | exact hC.k 13 rfl | exact hC.k 14 rfl | exact hC.k 15 rfl | exact hC.k 16 rfl | exact hC.k 17 rfl | exact hC.k 18 rfl | exact hC.k 19 rfl | exact hC.k 20 rfl | exact hC.k 2 rfl | exact hC.k 3 rfl | exact hC.k 6 rfl | exact hC.k 7 rfl | exact hV.k | exact hV.rows.1 | exact hV.pw.2) (by first | exact hC.p 22 rfl | exact hC.p 23 rfl | exact hC.p 24 rfl | exact hC.p 25 rfl | exact hC.p 26 rfl | exact hC.p 27 rfl | exact hC.p 28 rfl | exact hC.p 29 rfl | exact hC.p 9 rfl | exact hC.p 12 rfl | exact hC.p 13 rfl | exact hV.pr | exact hV.pw.1 | exact i7 | exact i8 | exact i9 | rfl) ?_
    refine VW.aload_n (pc' := 5) d_Trial_allows_4 rfl rfl ?_
    refine VW.gP (ci := 8) (T := T8) (N := 19) (k := 3) (k' := 3) (pc' := 8) d_Trial_allows_5 rfl lk_Trial_39 in8 rfl rfl rfl rfl (by first | exact hC.k 13 rfl | exact hC.k 14 rfl | exact hC.k 15 rfl | exact hC.k 16 rfl | exact hC.k 17 rfl | exact hC.k 18 rfl | exact hC.k 19 rfl | exact hC.k 20 rfl | exact hC.k 2 rfl | exact hC.k 3 rfl | exact hC.k 6 rfl | exact hC.k 7 rfl | exact hV.k | exact hV.rows.1 | exact hV.pw.2) (by first | exact hC.p 22 rfl | exact hC.p 23 rfl | exact hC.p 24 rfl | exact hC.p 25 rfl | exact hC.p 26 rfl | exact hC.p 27 rfl | exact hC.p 28 rfl | exact hC.p 29 rfl | exact hC.p 9 rfl | exact hC.p 12 rfl | exact hC.p 13 rfl | exact hV.pr | exact hV.pw.1 | exact i7 | exact i8 | exact i9 | rfl) ?_
    refine VW.cV (ci := 6) (T := T6) (N := 1) (pc' := 11) d_Trial_allows_8 rfl mv_Rows_copyFrom lk_Trial_44 rfl (by first | exact hC.k 13 rfl | exact hC.k 14 rfl | exact hC.k 15 rfl | exact hC.k 16 rfl | exact hC.k 17 rfl | exact hC.k 18 rfl | exact hC.k 19 rfl | exact hC.k 20 rfl | exact hC.k 2 rfl | exact hC.k 3 rfl | exact hC.k 6 rfl | exact hC.k 7 rfl | exact hV.k | exact hV.rows.1 | exact hV.pw.2) rfl rfl rfl (Nat.zero_le _) (Nat.zero_le _) (sp_Rows_copyFrom hC.af hV.rows) rfl rfl ?_
    refine VW.aload_n (pc' := 12) d_Trial_allows_11 rfl rfl ?_
    refine VW.iconst (pc' := 13) d_Trial_allows_12 rfl (by decide) ?_
    refine VW.pI (ci := 9) (T := T9) (N := 8) (k := 7) (k' := 7) (ty := ty9) (pc' := 16) d_Trial_allows_13 rfl lk_Trial_48 in9 tk9 nm9 rfl rfl rfl rfl rfl rfl (by first | exact hC.k 13 rfl | exact hC.k 14 rfl | exact hC.k 15 rfl | exact hC.k 16 rfl | exact hC.k 17 rfl | exact hC.k 18 rfl | exact hC.k 19 rfl | exact hC.k 20 rfl | exact hC.k 2 rfl | exact hC.k 3 rfl | exact hC.k 6 rfl | exact hC.k 7 rfl | exact hV.k | exact hV.rows.1 | exact hV.pw.2) ?_
    rw [hd]
    refine VW.aload_n (pc' := 17) d_Trial_allows_16 rfl rfl ?_
    refine VW.gI (ci := 8) (T := T8) (N := 19) (k := 7) (k' := 7) (pc' := 20) d_Trial_allows_17 rfl lk_Trial_52 in8 rfl rfl rfl rfl (by first | exact hC.k 13 rfl | exact hC.k 14 rfl | exact hC.k 15 rfl | exact hC.k 16 rfl | exact hC.k 17 rfl | exact hC.k 18 rfl | exact hC.k 19 rfl | exact hC.k 20 rfl | exact hC.k 2 rfl | exact hC.k 3 rfl | exact hC.k 6 rfl | exact hC.k 7 rfl | exact hV.k | exact hV.rows.1 | exact hV.pw.2) (by first | exact hC.p 22 rfl | exact hC.p 23 rfl | exact hC.p 24 rfl | exact hC.p 25 rfl | exact hC.p 26 rfl | exact hC.p 27 rfl | exact hC.p 28 rfl | exact hC.p 29 rfl | exact hC.p 9 rfl | exact hC.p 12 rfl | exact hC.p 13 rfl | exact hV.pr | exact hV.pw.1 | exact i7 | exact i8 | exact i9 | rfl) ?_
    refine VW.if_ne (tgt := 29) (pc' := 23) d_Trial_allows_20 rfl rfl (fun c20 => ?_) (fun c20 => ?_)
    case refine_1 => exact absurd c20 (by omega)
    refine VW.aload_n (pc' := 24) d_Trial_allows_23 rfl rfl ?_
    refine VW.aload_n (pc' := 25) d_Trial_allows_24 rfl rfl ?_
    refine VW.cVq (ci := 9) (T := T9) (N := 8) (pc' := 28) d_Trial_allows_25 rfl mv_Trial_allowsInsert lk_Trial_55 rfl (by first | exact hC.k 13 rfl | exact hC.k 14 rfl | exact hC.k 15 rfl | exact hC.k 16 rfl | exact hC.k 17 rfl | exact hC.k 18 rfl | exact hC.k 19 rfl | exact hC.k 20 rfl | exact hC.k 2 rfl | exact hC.k 3 rfl | exact hC.k 6 rfl | exact hC.k 7 rfl | exact hV.k | exact hV.rows.1 | exact hV.pw.2) rfl rfl rfl (by exact (show 0 + ce ≤ ce by omega)) (by exact (show 0 + n ≤ n by omega)) (sp) rfl rfl (fun r9 K9 P9 J9 I9 h9 => ?_)
    obtain ⟨z1, z2, z3, h9⟩ := h9
    subst z1 z2 z3
    have hr := Sum.inl.inj h9.2.2.2.1
    subst hr
    exact VW.iret d_Trial_allows_28 rfl (narZ (bI_01 _)) (by exact (show 0 + ce ≤ ce by omega)) (by exact (show 0 + n ≤ n by omega)) (fin _ _ h9)
  · obtain ⟨l1, c1, n1, K1, P1, I1, ⟨v1, v2⟩, f1, r1, k1, k2, -, sp1⟩ := readKey_ex (J := J) (I := alI I i) (t := I (tX i) 8) (y := I (tX i) 9) hV aN ⟨ht.1, t6⟩ (by rw [aT]; omega)
    have d1 := RdD.key k1 k2
    have E1 : InE (alI I i) I1 i := InE.rf.tr f1 d1
    have C1 := hC.tx f1
    have B1 := aB.in E1
    have j7 : I1 (tX i) 7 = I (tX i) 7 := (E1.1 7 (by decide) (by decide)).trans i7
    have j8 : I1 (tX i) 8 = I (tX i) 8 := (E1.1 8 (by decide) (by decide)).trans i8
    have j10 : I1 (tX i) 10 = I (tX i) 10 := (E1.1 10 (by decide) (by decide)).trans (congrFun aT 10)
    have j11 : I1 (tX i) 11 = I (tX i) 11 := (E1.1 11 (by decide) (by decide)).trans (congrFun aT 11)
    have j0 : I1 1096 7 = 0 := (congrFun (E1.2.2 1096 (nTx_hi (by decide))) 7).trans a0
    have b1 : I1 (tX i) 14 < 100000 := by have := d1.2.1; rw [aT] at this; omega
    have kY : ∀ t y, (t = I (tX i) 8 ∧ y = I (tX i) 9) ↔ keY (alI I i) i t y := fun t y => by unfold keY; rw [aT]
    by_cases k1' : I (tX i) 7 = 1
    · obtain ⟨l', ce, n, K', P', g1, g2, g3, sp⟩ := update_ex (J := J) C1 v1 v2 B1 (by rw [j8]; exact ⟨ht.1, t6⟩) (by rw [j10]; exact hc k1') j0 b1
      refine ⟨l', c1 + ce, n1 + n, K', P', g1, f1.t.tr g2, ⟨by omega, by omega⟩, ?_⟩
      have uo := upd_of E1
      have fo := frC_of (j8.trans i8.symm) E1.2.1.2 (E1.2.2 1037 (nTx_hi (by decide))) (alI I i (tX i) 10) (alI I i (tX i) 11)
      have fin : ∀ r T, AlP I1 i l1 l' m (fun _ => False) (frY I1 i (I1 (tX i) 10) (I1 (tX i) 11)) 1 (updOk I1 i) (updRw I1 i) r T → (fun r K2 P2 J2 I2 => K2 = K' ∧ P2 = P' ∧ J2 = J ∧ TriP (alI I i) i l l' m r I2 : PQ) r K' P' J T := fun r T h => by
        refine ⟨rfl, rfl, rfl, fun z => absurd (i7.symm.trans z) k0, fun _ => (AlP.pre d1 E1.2.2 h).iff (fun _ _ _ => ⟨fun z => z.elim id id, False.elim⟩) (fun t y => ?_) (by decide) uo.1 (uo.2 T), fun _ z => absurd (by rw [i7]; exact k1') z⟩
        rw [kY, j10, j11, show I (tX i) 10 = alI I i (tX i) 10 by rw [aT], show I (tX i) 11 = alI I i (tX i) 11 by rw [aT], fo.2]
      refine Sp.ofV (by decide) (Or.inr rfl) rfl ?_
      refine VW.aload_n (pc' := 1) d_Trial_allows_0 rfl rfl ?_
      refine VW.gP (ci := 9) (T := T9) (N := 8) (k := 1) (k' := 1) (pc' := 4) d_Trial_allows_1 rfl lk_Trial_12 in9 rfl rfl rfl rfl (by first | exact hC.k 13 rfl | exact hC.k 14 rfl | exact hC.k 15 rfl | exact hC.k 16 rfl | exact hC.k 17 rfl | exact hC.k 18 rfl | exact hC.k 19 rfl | exact hC.k 20 rfl | exact hC.k 2 rfl | exact hC.k 3 rfl | exact hC.k 6 rfl | exact hC.k 7 rfl | exact hV.k | exact hV.rows.1 | exact hV.pw.2 | exact v1.k | exact C1.k 13 rfl) (by first | exact hC.p 22 rfl | exact hC.p 23 rfl | exact hC.p 24 rfl | exact hC.p 25 rfl | exact hC.p 26 rfl | exact hC.p 27 rfl | exact hC.p 28 rfl | exact hC.p 29 rfl | exact hC.p 9 rfl | exact hC.p 12 rfl | exact hC.p 13 rfl | exact hV.pr | exact hV.pw.1 | exact i7 | exact i8 | exact i9 | exact j7 | rfl) ?_
      refine VW.aload_n (pc' := 5) d_Trial_allows_4 rfl rfl ?_
      refine VW.gP (ci := 8) (T := T8) (N := 19) (k := 3) (k' := 3) (pc' := 8) d_Trial_allows_5 rfl lk_Trial_39 in8 rfl rfl rfl rfl (by first | exact hC.k 13 rfl | exact hC.k 14 rfl | exact hC.k 15 rfl | exact hC.k 16 rfl | exact hC.k 17 rfl | exact hC.k 18 rfl | exact hC.k 19 rfl | exact hC.k 20 rfl | exact hC.k 2 rfl | exact hC.k 3 rfl | exact hC.k 6 rfl | exact hC.k 7 rfl | exact hV.k | exact hV.rows.1 | exact hV.pw.2 | exact v1.k | exact C1.k 13 rfl) (by first | exact hC.p 22 rfl | exact hC.p 23 rfl | exact hC.p 24 rfl | exact hC.p 25 rfl | exact hC.p 26 rfl | exact hC.p 27 rfl | exact hC.p 28 rfl | exact hC.p 29 rfl | exact hC.p 9 rfl | exact hC.p 12 rfl | exact hC.p 13 rfl | exact hV.pr | exact hV.pw.1 | exact i7 | exact i8 | exact i9 | exact j7 | rfl) ?_
      refine VW.cV (ci := 6) (T := T6) (N := 1) (pc' := 11) d_Trial_allows_8 rfl mv_Rows_copyFrom lk_Trial_44 rfl (by first | exact hC.k 13 rfl | exact hC.k 14 rfl | exact hC.k 15 rfl | exact hC.k 16 rfl | exact hC.k 17 rfl | exact hC.k 18 rfl | exact hC.k 19 rfl | exact hC.k 20 rfl | exact hC.k 2 rfl | exact hC.k 3 rfl | exact hC.k 6 rfl | exact hC.k 7 rfl | exact hV.k | exact hV.rows.1 | exact hV.pw.2 | exact v1.k | exact C1.k 13 rfl) rfl rfl rfl (Nat.zero_le _) (Nat.zero_le _) (sp_Rows_copyFrom hC.af hV.rows) rfl rfl ?_
      refine VW.aload_n (pc' := 12) d_Trial_allows_11 rfl rfl ?_
      refine VW.iconst (pc' := 13) d_Trial_allows_12 rfl (by decide) ?_
      refine VW.pI (ci := 9) (T := T9) (N := 8) (k := 7) (k' := 7) (ty := ty9) (pc' := 16) d_Trial_allows_13 rfl lk_Trial_48 in9 tk9 nm9 rfl rfl rfl rfl rfl rfl (by first | exact hC.k 13 rfl | exact hC.k 14 rfl | exact hC.k 15 rfl | exact hC.k 16 rfl | exact hC.k 17 rfl | exact hC.k 18 rfl | exact hC.k 19 rfl | exact hC.k 20 rfl | exact hC.k 2 rfl | exact hC.k 3 rfl | exact hC.k 6 rfl | exact hC.k 7 rfl | exact hV.k | exact hV.rows.1 | exact hV.pw.2 | exact v1.k | exact C1.k 13 rfl) ?_
      rw [hd]
      refine VW.aload_n (pc' := 17) d_Trial_allows_16 rfl rfl ?_
      refine VW.gI (ci := 8) (T := T8) (N := 19) (k := 7) (k' := 7) (pc' := 20) d_Trial_allows_17 rfl lk_Trial_52 in8 rfl rfl rfl rfl (by first | exact hC.k 13 rfl | exact hC.k 14 rfl | exact hC.k 15 rfl | exact hC.k 16 rfl | exact hC.k 17 rfl | exact hC.k 18 rfl | exact hC.k 19 rfl | exact hC.k 20 rfl | exact hC.k 2 rfl | exact hC.k 3 rfl | exact hC.k 6 rfl | exact hC.k 7 rfl | exact hV.k | exact hV.rows.1 | exact hV.pw.2 | exact v1.k | exact C1.k 13 rfl) (by first | exact hC.p 22 rfl | exact hC.p 23 rfl | exact hC.p 24 rfl | exact hC.p 25 rfl | exact hC.p 26 rfl | exact hC.p 27 rfl | exact hC.p 28 rfl | exact hC.p 29 rfl | exact hC.p 9 rfl | exact hC.p 12 rfl | exact hC.p 13 rfl | exact hV.pr | exact hV.pw.1 | exact i7 | exact i8 | exact i9 | exact j7 | rfl) ?_
      refine VW.if_ne (tgt := 29) (pc' := 23) d_Trial_allows_20 rfl rfl (fun c20 => ?_) (fun c20 => ?_)
      case refine_2 => exact absurd c20 (by omega)
      refine VW.aload_n (pc' := 30) d_Trial_allows_29 rfl rfl ?_
      refine VW.aload_n (pc' := 31) d_Trial_allows_30 rfl rfl ?_
      refine VW.gI (ci := 8) (T := T8) (N := 19) (k := 8) (k' := 8) (pc' := 34) d_Trial_allows_31 rfl lk_Trial_59 in8 rfl rfl rfl rfl (by first | exact hC.k 13 rfl | exact hC.k 14 rfl | exact hC.k 15 rfl | exact hC.k 16 rfl | exact hC.k 17 rfl | exact hC.k 18 rfl | exact hC.k 19 rfl | exact hC.k 20 rfl | exact hC.k 2 rfl | exact hC.k 3 rfl | exact hC.k 6 rfl | exact hC.k 7 rfl | exact hV.k | exact hV.rows.1 | exact hV.pw.2 | exact v1.k | exact C1.k 13 rfl) (by first | exact hC.p 22 rfl | exact hC.p 23 rfl | exact hC.p 24 rfl | exact hC.p 25 rfl | exact hC.p 26 rfl | exact hC.p 27 rfl | exact hC.p 28 rfl | exact hC.p 29 rfl | exact hC.p 9 rfl | exact hC.p 12 rfl | exact hC.p 13 rfl | exact hV.pr | exact hV.pw.1 | exact i7 | exact i8 | exact i9 | exact j7 | rfl) ?_
      refine VW.aload_n (pc' := 35) d_Trial_allows_34 rfl rfl ?_
      refine VW.gI (ci := 8) (T := T8) (N := 19) (k := 9) (k' := 9) (pc' := 38) d_Trial_allows_35 rfl lk_Trial_62 in8 rfl rfl rfl rfl (by first | exact hC.k 13 rfl | exact hC.k 14 rfl | exact hC.k 15 rfl | exact hC.k 16 rfl | exact hC.k 17 rfl | exact hC.k 18 rfl | exact hC.k 19 rfl | exact hC.k 20 rfl | exact hC.k 2 rfl | exact hC.k 3 rfl | exact hC.k 6 rfl | exact hC.k 7 rfl | exact hV.k | exact hV.rows.1 | exact hV.pw.2 | exact v1.k | exact C1.k 13 rfl) (by first | exact hC.p 22 rfl | exact hC.p 23 rfl | exact hC.p 24 rfl | exact hC.p 25 rfl | exact hC.p 26 rfl | exact hC.p 27 rfl | exact hC.p 28 rfl | exact hC.p 29 rfl | exact hC.p 9 rfl | exact hC.p 12 rfl | exact hC.p 13 rfl | exact hV.pr | exact hV.pw.1 | exact i7 | exact i8 | exact i9 | exact j7 | rfl) ?_
      refine VW.cV (ci := 8) (T := T8) (N := 19) (pc' := 41) d_Trial_allows_38 rfl mv_Transaction_readKey lk_Trial_65 rfl (by first | exact hC.k 13 rfl | exact hC.k 14 rfl | exact hC.k 15 rfl | exact hC.k 16 rfl | exact hC.k 17 rfl | exact hC.k 18 rfl | exact hC.k 19 rfl | exact hC.k 20 rfl | exact hC.k 2 rfl | exact hC.k 3 rfl | exact hC.k 6 rfl | exact hC.k 7 rfl | exact hV.k | exact hV.rows.1 | exact hV.pw.2 | exact v1.k | exact C1.k 13 rfl) rfl rfl rfl (by exact (show 0 + c1 ≤ c1 + ce by omega)) (by exact (show 0 + n1 ≤ n1 + n by omega)) (sp1) rfl rfl ?_
      refine VW.aload_n (pc' := 42) d_Trial_allows_41 rfl rfl ?_
      refine VW.gI (ci := 8) (T := T8) (N := 19) (k := 7) (k' := 7) (pc' := 45) d_Trial_allows_42 rfl lk_Trial_52 in8 rfl rfl rfl rfl (by first | exact hC.k 13 rfl | exact hC.k 14 rfl | exact hC.k 15 rfl | exact hC.k 16 rfl | exact hC.k 17 rfl | exact hC.k 18 rfl | exact hC.k 19 rfl | exact hC.k 20 rfl | exact hC.k 2 rfl | exact hC.k 3 rfl | exact hC.k 6 rfl | exact hC.k 7 rfl | exact hV.k | exact hV.rows.1 | exact hV.pw.2 | exact v1.k | exact C1.k 13 rfl) (by first | exact hC.p 22 rfl | exact hC.p 23 rfl | exact hC.p 24 rfl | exact hC.p 25 rfl | exact hC.p 26 rfl | exact hC.p 27 rfl | exact hC.p 28 rfl | exact hC.p 29 rfl | exact hC.p 9 rfl | exact hC.p 12 rfl | exact hC.p 13 rfl | exact hV.pr | exact hV.pw.1 | exact i7 | exact i8 | exact i9 | exact j7 | rfl) ?_
      refine VW.iconst (pc' := 46) d_Trial_allows_45 rfl (by decide) ?_
      refine VW.icmp_ne (tgt := 57) (pc' := 49) d_Trial_allows_46 rfl rfl (fun c46 => ?_) (fun c46 => ?_)
      case refine_1 => exact absurd c46 (by omega)
      refine VW.aload_n (pc' := 50) d_Trial_allows_49 rfl rfl ?_
      refine VW.aload_n (pc' := 51) d_Trial_allows_50 rfl rfl ?_
      refine VW.cVq (ci := 9) (T := T9) (N := 8) (pc' := 54) d_Trial_allows_51 rfl mv_Trial_allowsUpdate lk_Trial_69 rfl (by first | exact hC.k 13 rfl | exact hC.k 14 rfl | exact hC.k 15 rfl | exact hC.k 16 rfl | exact hC.k 17 rfl | exact hC.k 18 rfl | exact hC.k 19 rfl | exact hC.k 20 rfl | exact hC.k 2 rfl | exact hC.k 3 rfl | exact hC.k 6 rfl | exact hC.k 7 rfl | exact hV.k | exact hV.rows.1 | exact hV.pw.2 | exact v1.k | exact C1.k 13 rfl) rfl rfl rfl (by exact (show 0 + c1 + ce ≤ c1 + ce by omega)) (by exact (show 0 + n1 + n ≤ n1 + n by omega)) (sp) rfl rfl (fun r9 K9 P9 J9 I9 h9 => ?_)
      obtain ⟨z1, z2, z3, h9⟩ := h9
      subst z1 z2 z3
      have hr := Sum.inl.inj h9.2.2.2.1
      subst hr
      refine VW.goto (pc' := 62) d_Trial_allows_54 rfl ?_
      exact VW.iret d_Trial_allows_62 rfl (narZ (bI_01 _)) (by exact (show 0 + c1 + ce ≤ c1 + ce by omega)) (by exact (show 0 + n1 + n ≤ n1 + n by omega)) (fin _ _ h9)
    · have sp := sp_Trial_allowsDelete (J := J) C1 v1 v2 B1 (by rw [j8]; exact ⟨ht.1, t6⟩) j0
      refine ⟨l1, c1, n1, K1, P1, v1, f1.t, r1, ?_⟩
      have x1 : I1 (tX i) 1 = alI I i (tX i) 1 := E1.1 1 (by decide) (by decide)
      have es := seeP_of x1 (j8.trans i8.symm) (E1.1 9 (by decide) (by decide)) (E1.2.2 1129 (nTx_hi (by decide))) (E1.2.2 1032 (nTx_hi (by decide))) (E1.2.2 1040 (nTx_hi (by decide)))
      have k1A : alI I i (tX i) 7 ≠ 1 := fun z => k1' (i7.symm.trans z)
      have k0A : alI I i (tX i) 7 ≠ 0 := fun z => k0 (i7.symm.trans z)
      have fin : ∀ r T, ((seeP I1 i = -1 ∧ r = .inl (some (vI 0)) ∧ T = I1) ∨ (seeP I1 i ≠ -1 ∧ ∃ G, SpT (dlI I1 i) G ∧ (∀ c, 0 ≤ c → c < 192 → ¬ rfG G c 1) ∧ AlP I1 i l1 l1 m (dlW G) (fun _ _ => False) 0 (¬ ∃ c, 0 ≤ c ∧ c < 192 ∧ rfG G c 0) (dlRw I1 G i) r T)) → (fun r K2 P2 J2 I2 => K2 = K1 ∧ P2 = P1 ∧ J2 = J ∧ TriP (alI I i) i l l1 m r I2 : PQ) r K1 P1 J T ∧ ∃ q : Prop, r = .inl (some (vI (bI q))) := fun r T h => by
        rcases h with ⟨h1, h2, h3⟩ | ⟨h1, G, h2, h3, h4⟩
        · refine ⟨⟨rfl, rfl, rfl, fun z => absurd z k0A, fun z => absurd z k1A, fun _ _ => Or.inl ⟨es ▸ h1, ?_⟩⟩, False, by rw [h2, bI0 id]⟩
          rw [h3]
          exact ⟨v2, fun o ho => E1.2.2 o (fun z => ho (Or.inl z)), d1.iff (fun _ _ _ => Iff.rfl) kY (Int.le_refl _), by rw [h2, bI0 id], False.elim⟩
        · obtain ⟨G', g1, g2, g3, g4⟩ := del_of E1 h2
          refine ⟨⟨rfl, rfl, rfl, fun z => absurd z k0A, fun z => absurd z k1A, fun _ _ => Or.inr ⟨es ▸ h1, G', g1, fun c c0 c1 => by rw [g2]; exact h3 c c0 c1, (AlP.pre d1 E1.2.2 h4).iff (fun t _ _ => ⟨fun z => z.elim False.elim (fun w => (g3 t).mpr w), fun z => Or.inr ((g3 t).mp z)⟩) (fun t y => ⟨fun z => z.elim (fun w => (kY t y).mp w) False.elim, fun z => Or.inl ((kY t y).mpr z)⟩) (by decide) ?_ (g4 T)⟩⟩, _, h4.2.2.2.1⟩
          constructor
          · rintro z ⟨c, a, b, d⟩
            exact z ⟨c, a, b, (g2 c 0).mp d⟩
          · rintro z ⟨c, a, b, d⟩
            exact z ⟨c, a, b, (g2 c 0).mpr d⟩
      refine Sp.ofV (by decide) (Or.inr rfl) rfl ?_
      refine VW.aload_n (pc' := 1) d_Trial_allows_0 rfl rfl ?_
      refine VW.gP (ci := 9) (T := T9) (N := 8) (k := 1) (k' := 1) (pc' := 4) d_Trial_allows_1 rfl lk_Trial_12 in9 rfl rfl rfl rfl (by first | exact hC.k 13 rfl | exact hC.k 14 rfl | exact hC.k 15 rfl | exact hC.k 16 rfl | exact hC.k 17 rfl | exact hC.k 18 rfl | exact hC.k 19 rfl | exact hC.k 20 rfl | exact hC.k 2 rfl | exact hC.k 3 rfl | exact hC.k 6 rfl | exact hC.k 7 rfl | exact hV.k | exact hV.rows.1 | exact hV.pw.2 | exact v1.k | exact C1.k 13 rfl) (by first | exact hC.p 22 rfl | exact hC.p 23 rfl | exact hC.p 24 rfl | exact hC.p 25 rfl | exact hC.p 26 rfl | exact hC.p 27 rfl | exact hC.p 28 rfl | exact hC.p 29 rfl | exact hC.p 9 rfl | exact hC.p 12 rfl | exact hC.p 13 rfl | exact hV.pr | exact hV.pw.1 | exact i7 | exact i8 | exact i9 | exact j7 | rfl) ?_
      refine VW.aload_n (pc' := 5) d_Trial_allows_4 rfl rfl ?_
      refine VW.gP (ci := 8) (T := T8) (N := 19) (k := 3) (k' := 3) (pc' := 8) d_Trial_allows_5 rfl lk_Trial_39 in8 rfl rfl rfl rfl (by first | exact hC.k 13 rfl | exact hC.k 14 rfl | exact hC.k 15 rfl | exact hC.k 16 rfl | exact hC.k 17 rfl | exact hC.k 18 rfl | exact hC.k 19 rfl | exact hC.k 20 rfl | exact hC.k 2 rfl | exact hC.k 3 rfl | exact hC.k 6 rfl | exact hC.k 7 rfl | exact hV.k | exact hV.rows.1 | exact hV.pw.2 | exact v1.k | exact C1.k 13 rfl) (by first | exact hC.p 22 rfl | exact hC.p 23 rfl | exact hC.p 24 rfl | exact hC.p 25 rfl | exact hC.p 26 rfl | exact hC.p 27 rfl | exact hC.p 28 rfl | exact hC.p 29 rfl | exact hC.p 9 rfl | exact hC.p 12 rfl | exact hC.p 13 rfl | exact hV.pr | exact hV.pw.1 | exact i7 | exact i8 | exact i9 | exact j7 | rfl) ?_
      refine VW.cV (ci := 6) (T := T6) (N := 1) (pc' := 11) d_Trial_allows_8 rfl mv_Rows_copyFrom lk_Trial_44 rfl (by first | exact hC.k 13 rfl | exact hC.k 14 rfl | exact hC.k 15 rfl | exact hC.k 16 rfl | exact hC.k 17 rfl | exact hC.k 18 rfl | exact hC.k 19 rfl | exact hC.k 20 rfl | exact hC.k 2 rfl | exact hC.k 3 rfl | exact hC.k 6 rfl | exact hC.k 7 rfl | exact hV.k | exact hV.rows.1 | exact hV.pw.2 | exact v1.k | exact C1.k 13 rfl) rfl rfl rfl (Nat.zero_le _) (Nat.zero_le _) (sp_Rows_copyFrom hC.af hV.rows) rfl rfl ?_
      refine VW.aload_n (pc' := 12) d_Trial_allows_11 rfl rfl ?_
      refine VW.iconst (pc' := 13) d_Trial_allows_12 rfl (by decide) ?_
      refine VW.pI (ci := 9) (T := T9) (N := 8) (k := 7) (k' := 7) (ty := ty9) (pc' := 16) d_Trial_allows_13 rfl lk_Trial_48 in9 tk9 nm9 rfl rfl rfl rfl rfl rfl (by first | exact hC.k 13 rfl | exact hC.k 14 rfl | exact hC.k 15 rfl | exact hC.k 16 rfl | exact hC.k 17 rfl | exact hC.k 18 rfl | exact hC.k 19 rfl | exact hC.k 20 rfl | exact hC.k 2 rfl | exact hC.k 3 rfl | exact hC.k 6 rfl | exact hC.k 7 rfl | exact hV.k | exact hV.rows.1 | exact hV.pw.2 | exact v1.k | exact C1.k 13 rfl) ?_
      rw [hd]
      refine VW.aload_n (pc' := 17) d_Trial_allows_16 rfl rfl ?_
      refine VW.gI (ci := 8) (T := T8) (N := 19) (k := 7) (k' := 7) (pc' := 20) d_Trial_allows_17 rfl lk_Trial_52 in8 rfl rfl rfl rfl (by first | exact hC.k 13 rfl | exact hC.k 14 rfl | exact hC.k 15 rfl | exact hC.k 16 rfl | exact hC.k 17 rfl | exact hC.k 18 rfl | exact hC.k 19 rfl | exact hC.k 20 rfl | exact hC.k 2 rfl | exact hC.k 3 rfl | exact hC.k 6 rfl | exact hC.k 7 rfl | exact hV.k | exact hV.rows.1 | exact hV.pw.2 | exact v1.k | exact C1.k 13 rfl) (by first | exact hC.p 22 rfl | exact hC.p 23 rfl | exact hC.p 24 rfl | exact hC.p 25 rfl | exact hC.p 26 rfl | exact hC.p 27 rfl | exact hC.p 28 rfl | exact hC.p 29 rfl | exact hC.p 9 rfl | exact hC.p 12 rfl | exact hC.p 13 rfl | exact hV.pr | exact hV.pw.1 | exact i7 | exact i8 | exact i9 | exact j7 | rfl) ?_
      refine VW.if_ne (tgt := 29) (pc' := 23) d_Trial_allows_20 rfl rfl (fun c20 => ?_) (fun c20 => ?_)
      case refine_2 => exact absurd c20 (by omega)
      refine VW.aload_n (pc' := 30) d_Trial_allows_29 rfl rfl ?_
      refine VW.aload_n (pc' := 31) d_Trial_allows_30 rfl rfl ?_
      refine VW.gI (ci := 8) (T := T8) (N := 19) (k := 8) (k' := 8) (pc' := 34) d_Trial_allows_31 rfl lk_Trial_59 in8 rfl rfl rfl rfl (by first | exact hC.k 13 rfl | exact hC.k 14 rfl | exact hC.k 15 rfl | exact hC.k 16 rfl | exact hC.k 17 rfl | exact hC.k 18 rfl | exact hC.k 19 rfl | exact hC.k 20 rfl | exact hC.k 2 rfl | exact hC.k 3 rfl | exact hC.k 6 rfl | exact hC.k 7 rfl | exact hV.k | exact hV.rows.1 | exact hV.pw.2 | exact v1.k | exact C1.k 13 rfl) (by first | exact hC.p 22 rfl | exact hC.p 23 rfl | exact hC.p 24 rfl | exact hC.p 25 rfl | exact hC.p 26 rfl | exact hC.p 27 rfl | exact hC.p 28 rfl | exact hC.p 29 rfl | exact hC.p 9 rfl | exact hC.p 12 rfl | exact hC.p 13 rfl | exact hV.pr | exact hV.pw.1 | exact i7 | exact i8 | exact i9 | exact j7 | rfl) ?_
      refine VW.aload_n (pc' := 35) d_Trial_allows_34 rfl rfl ?_
      refine VW.gI (ci := 8) (T := T8) (N := 19) (k := 9) (k' := 9) (pc' := 38) d_Trial_allows_35 rfl lk_Trial_62 in8 rfl rfl rfl rfl (by first | exact hC.k 13 rfl | exact hC.k 14 rfl | exact hC.k 15 rfl | exact hC.k 16 rfl | exact hC.k 17 rfl | exact hC.k 18 rfl | exact hC.k 19 rfl | exact hC.k 20 rfl | exact hC.k 2 rfl | exact hC.k 3 rfl | exact hC.k 6 rfl | exact hC.k 7 rfl | exact hV.k | exact hV.rows.1 | exact hV.pw.2 | exact v1.k | exact C1.k 13 rfl) (by first | exact hC.p 22 rfl | exact hC.p 23 rfl | exact hC.p 24 rfl | exact hC.p 25 rfl | exact hC.p 26 rfl | exact hC.p 27 rfl | exact hC.p 28 rfl | exact hC.p 29 rfl | exact hC.p 9 rfl | exact hC.p 12 rfl | exact hC.p 13 rfl | exact hV.pr | exact hV.pw.1 | exact i7 | exact i8 | exact i9 | exact j7 | rfl) ?_
      refine VW.cV (ci := 8) (T := T8) (N := 19) (pc' := 41) d_Trial_allows_38 rfl mv_Transaction_readKey lk_Trial_65 rfl (by first | exact hC.k 13 rfl | exact hC.k 14 rfl | exact hC.k 15 rfl | exact hC.k 16 rfl | exact hC.k 17 rfl | exact hC.k 18 rfl | exact hC.k 19 rfl | exact hC.k 20 rfl | exact hC.k 2 rfl | exact hC.k 3 rfl | exact hC.k 6 rfl | exact hC.k 7 rfl | exact hV.k | exact hV.rows.1 | exact hV.pw.2 | exact v1.k | exact C1.k 13 rfl) rfl rfl rfl (by exact (show 0 + c1 ≤ c1 by omega)) (by exact (show 0 + n1 ≤ n1 by omega)) (sp1) rfl rfl ?_
      refine VW.aload_n (pc' := 42) d_Trial_allows_41 rfl rfl ?_
      refine VW.gI (ci := 8) (T := T8) (N := 19) (k := 7) (k' := 7) (pc' := 45) d_Trial_allows_42 rfl lk_Trial_52 in8 rfl rfl rfl rfl (by first | exact hC.k 13 rfl | exact hC.k 14 rfl | exact hC.k 15 rfl | exact hC.k 16 rfl | exact hC.k 17 rfl | exact hC.k 18 rfl | exact hC.k 19 rfl | exact hC.k 20 rfl | exact hC.k 2 rfl | exact hC.k 3 rfl | exact hC.k 6 rfl | exact hC.k 7 rfl | exact hV.k | exact hV.rows.1 | exact hV.pw.2 | exact v1.k | exact C1.k 13 rfl) (by first | exact hC.p 22 rfl | exact hC.p 23 rfl | exact hC.p 24 rfl | exact hC.p 25 rfl | exact hC.p 26 rfl | exact hC.p 27 rfl | exact hC.p 28 rfl | exact hC.p 29 rfl | exact hC.p 9 rfl | exact hC.p 12 rfl | exact hC.p 13 rfl | exact hV.pr | exact hV.pw.1 | exact i7 | exact i8 | exact i9 | exact j7 | rfl) ?_
      refine VW.iconst (pc' := 46) d_Trial_allows_45 rfl (by decide) ?_
      refine VW.icmp_ne (tgt := 57) (pc' := 49) d_Trial_allows_46 rfl rfl (fun c46 => ?_) (fun c46 => ?_)
      case refine_2 => exact absurd c46 (by omega)
      refine VW.aload_n (pc' := 58) d_Trial_allows_57 rfl rfl ?_
      refine VW.aload_n (pc' := 59) d_Trial_allows_58 rfl rfl ?_
      refine VW.cVq (ci := 9) (T := T9) (N := 8) (pc' := 62) d_Trial_allows_59 rfl mv_Trial_allowsDelete lk_Trial_72 rfl (by first | exact hC.k 13 rfl | exact hC.k 14 rfl | exact hC.k 15 rfl | exact hC.k 16 rfl | exact hC.k 17 rfl | exact hC.k 18 rfl | exact hC.k 19 rfl | exact hC.k 20 rfl | exact hC.k 2 rfl | exact hC.k 3 rfl | exact hC.k 6 rfl | exact hC.k 7 rfl | exact hV.k | exact hV.rows.1 | exact hV.pw.2 | exact v1.k | exact C1.k 13 rfl) rfl rfl rfl (by exact (show 0 + c1 ≤ c1 by omega)) (by exact (show 0 + n1 ≤ n1 by omega)) (sp) rfl rfl (fun r9 K9 P9 J9 I9 h9 => ?_)
      obtain ⟨z1, z2, z3, h9⟩ := h9
      subst z1 z2 z3
      obtain ⟨hf, q9, hr⟩ := fin _ _ h9
      have hr := Sum.inl.inj hr
      subst hr
      exact VW.iret d_Trial_allows_62 rfl (narZ (bI_01 _)) (by exact (show 0 + c1 ≤ c1 by omega)) (by exact (show 0 + n1 ≤ n1 by omega)) hf
end
