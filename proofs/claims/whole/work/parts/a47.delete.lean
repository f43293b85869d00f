section
variable {K : KT} {P : PT} {J I : IT}
/-- a deletion begins: what refers to what, one row goes -/
noncomputable def dlI (I : IT) (i : Nat) : IT := up2 (faI I (tX i + 33) 192) 1099 (seeP I i) 1
def dlW (G : IT) (t : Int) : Prop := ∃ q, 0 ≤ q ∧ q < 48 ∧ G 1099 q ≠ 0 ∧ t < G 1032 0 ∧ scRef G 1034 1037 t (q / 8) = 1
def dlD (G : IT) (p : Int) : Prop := (∃ c, 0 ≤ c ∧ c < 192 ∧ c / 4 = p ∧ rfG G c 2) ∨ G 1099 p ≠ 0
def dlRw (I G : IT) (i : Nat) (T : IT) : Prop := (∀ z, 0 ≤ z → z < 192 → T 1129 z = if bI (rfG G z 2 ∨ G 1099 (z / 4) ≠ 0) = 1 then -2147483648 else I 1129 z) ∧ ∃ (n : Nat) (M : IT), (∀ p, 0 ≤ p → p < 48 → (M 1100 p ≠ 0 ↔ dlD G p)) ∧ M (tX i + 33) = I (tX i + 33) ∧ T 1096 7 = n ∧ (trL T n).Perm (chgL M (tX i + 33) 48) ∧ (trL T n).Pairwise wle
theorem dlI_o {i o : Nat} (h1 : o ≠ 1101) (h2 : o ≠ 1099) (h3 : o ≠ 1100) : dlI I i o = I o := (funext (fun z => up2_o _ _ _ _ h2)).trans (faI_o h1 h2 h3)
theorem rfG_of {T : IT} (h1 : T 1101 = I 1101) (h2 : T 1099 = I 1099) (h3 : T 1038 = I 1038) : ∀ c r, rfG T c r ↔ rfG I c r := fun c r => by
  unfold rfG
  rw [h1, h2, h3]
theorem dlI_r {i : Nat} (hB : SchB I) : ∀ c, 0 ≤ c → c < 192 → dlI I i 1101 c = -1 ∨ (0 ≤ dlI I i 1101 c ∧ dlI I i 1101 c < 48) := fun c c0 c1 => by
  have e : dlI I i 1101 c = refC I (tX i + 33) c := (up2_o _ _ _ _ (by decide)).trans (if_pos ⟨rfl, c0, c1⟩)
  rw [e]
  have ts := tslot_rg ⟨c0, c1⟩
  exact refC_rg (hB.2.2.2.2.1 _ ts.1 ts.2)
theorem dlI_g {i : Nat} : ∀ p, 0 ≤ p → p < 48 → dlI I i 1099 p = 0 ∨ dlI I i 1099 p = 1 := fun p p0 p1 => by
  unfold dlI
  by_cases e : p = seeP I i
  · rw [e, up2_eq]; exact Or.inr rfl
  · rw [up2_k _ _ _ _ e]
    exact Or.inl ((if_neg (fun q => absurd q.1 (by decide))).trans (if_pos ⟨Or.inl rfl, p0, by omega⟩))
theorem dlI_c {i : Nat} : ∀ p, 0 ≤ p → p < 48 → dlI I i 1100 p = 0 := fun p p0 p1 => (up2_o _ _ _ _ (by decide)).trans ((if_neg (fun q => absurd q.1 (by decide))).trans (if_pos ⟨Or.inr rfl, p0, by omega⟩))
theorem sp_Trial_allowsDelete {i l m : Nat} (hC : ClW K P) (hV : TxV K P i l m) (hN : TxN I i l m) (hB : SchB I) (ht : 0 ≤ I (tX i) 8 ∧ I (tX i) 8 < 6) (h0 : I 1096 7 = 0) : Sp m_Trial_allowsDelete false (rmv 4 160) (fun r K2 P2 J2 I2 => K2 = K ∧ P2 = P ∧ J2 = J ∧ ((seeP I i = -1 ∧ r = .inl (some (vI 0)) ∧ I2 = I) ∨ (seeP I i ≠ -1 ∧ ∃ G, SpT (dlI I i) G ∧ (∀ c, 0 ≤ c → c < 192 → ¬ rfG G c 1) ∧ AlP I i l l m (dlW G) (fun _ _ => False) 0 (¬ ∃ c, 0 ≤ c ∧ c < 192 ∧ rfG G c 0) (dlRw I G i) r I2)) : PQ) K P J I [vR (some 1096), vR (some (tX i))] := by
  refine Sp.ofV (by decide) (Or.inr rfl) rfl ?_
  have x0 : 2000 ≤ tX i := by unfold tX; omega
  have sr := seeP_rg (I := I) ht
  have spS := sp_Trial_seenPlace (J := J) hC hV hB ht
  by_cases hs : seeP I i = -1
  · rw [hs] at spS
    refine VW.aload_n (pc' := 1) d_Trial_allowsDelete_0 rfl rfl ?_
    refine VW.aload_n (pc' := 2) d_Trial_allowsDelete_1 rfl rfl ?_
    refine VW.cV (ci := 9) (T := T9) (N := 8) (pc' := 5) d_Trial_allowsDelete_2 rfl mv_Trial_seenPlace lk_Trial_113 rfl (by first | exact hC.k 13 rfl | exact hC.k 14 rfl | exact hC.k 15 rfl | exact hC.k 16 rfl | exact hC.k 17 rfl | exact hC.k 18 rfl | exact hC.k 19 rfl | exact hC.k 20 rfl | exact hC.k 2 rfl | exact hC.k 3 rfl | exact hC.k 6 rfl | exact hC.k 7 rfl | exact hV.k | exact hV.rows.1 | exact hV.pw.2) rfl rfl rfl (Nat.le_refl _) (Nat.le_refl _) (spS) rfl rfl ?_
    refine VW.istore_n (pc' := 6) d_Trial_allowsDelete_5 rfl rfl ?_
    refine VW.iload_n (pc' := 7) d_Trial_allowsDelete_6 rfl rfl ?_
    refine VW.iconst (pc' := 8) d_Trial_allowsDelete_7 rfl (by decide) ?_
    refine VW.icmp_ne (tgt := 13) (pc' := 11) d_Trial_allowsDelete_8 rfl rfl (fun c8 => ?_) (fun c8 => ?_)
    case refine_1 => exact absurd c8 (by decide)
    refine VW.iconst (pc' := 12) d_Trial_allowsDelete_11 rfl (by decide) ?_
    exact VW.iret d_Trial_allowsDelete_12 rfl rfl (Nat.zero_le _) (Nat.zero_le _) (⟨rfl, rfl, rfl, Or.inl ⟨hs, rfl, rfl⟩⟩)
  · have s48 := sr.resolve_left hs
    have tail : ∀ G : IT, SpT (dlI I i) G → (∀ c, 0 ≤ c → c < 192 → ¬ rfG G c 1) → VW m_Trial_allowsDelete false (rmv 4 160) (fun r K2 P2 J2 I2 => K2 = K ∧ P2 = P ∧ J2 = J ∧ ((seeP I i = -1 ∧ r = .inl (some (vI 0)) ∧ I2 = I) ∨ (seeP I i ≠ -1 ∧ ∃ G, SpT (dlI I i) G ∧ (∀ c, 0 ≤ c → c < 192 → ¬ rfG G c 1) ∧ AlP I i l l m (dlW G) (fun _ _ => False) 0 (¬ ∃ c, 0 ≤ c ∧ c < 192 ∧ rfG G c 0) (dlRw I G i) r I2)) : PQ) K P J G 0 0 32 [(0, vR (some 1096)), (1, vR (some (tX i))), (2, vI (seeP I i))] [] := by
      intro G hG hcl
      have go : ∀ o, o ≠ 1101 → o ≠ 1099 → o ≠ 1100 → G o = I o := fun o a b c => (hG.1 o b).trans (dlI_o a b c)
      have gt : ∀ o, 2000 ≤ o → G o = I o := fun o h => go o (by omega) (by omega) (by omega)
      have gN : TxN G i l m := hN.hi gt
      have gB : SchB G := hB.of (go _ (by decide) (by decide) (by decide)) (go _ (by decide) (by decide) (by decide)) (go _ (by decide) (by decide) (by decide)) (go _ (by decide) (by decide) (by decide)) (go _ (by decide) (by decide) (by decide)) (go _ (by decide) (by decide) (by decide))
      have g11 : G 1101 = dlI I i 1101 := hG.1 1101 (by decide)
      have gr : ∀ c, 0 ≤ c → c < 192 → G 1101 c = -1 ∨ (0 ≤ G 1101 c ∧ G 1101 c < 48) := fun c c0 c1 => by rw [g11]; exact dlI_r hB c c0 c1
      have t2 : ∀ T : IT, RdN K P G T i l m (dlW G) → VW m_Trial_allowsDelete false (rmv 4 160) (fun r K2 P2 J2 I2 => K2 = K ∧ P2 = P ∧ J2 = J ∧ ((seeP I i = -1 ∧ r = .inl (some (vI 0)) ∧ I2 = I) ∨ (seeP I i ≠ -1 ∧ ∃ G, SpT (dlI I i) G ∧ (∀ c, 0 ≤ c → c < 192 → ¬ rfG G c 1) ∧ AlP I i l l m (dlW G) (fun _ _ => False) 0 (¬ ∃ c, 0 ≤ c ∧ c < 192 ∧ rfG G c 0) (dlRw I G i) r I2)) : PQ) K P J T 0 0 37 [(0, vR (some 1096)), (1, vR (some (tX i))), (2, vI (seeP I i))] [] := by
        intro T hT
        have tl : ∀ o, o < 2000 → T o = G o := fun o h => (hT.2.1 o (nTx_hi h)).2.2
        have er := rfG_of (tl 1101 (by decide)) (tl 1099 (by decide)) (tl 1038 (by decide))
        have tr : ∀ c, 0 ≤ c → c < 192 → T 1101 c = -1 ∨ (0 ≤ T 1101 c ∧ T 1101 c < 48) := fun c c0 c1 => by rw [tl 1101 (by decide)]; exact gr c c0 c1
        have eR : (∃ c, 0 ≤ c ∧ c < 192 ∧ rfG T c 0) = (∃ c, 0 ≤ c ∧ c < 192 ∧ rfG G c 0) := propext ⟨fun ⟨c, a, b, d⟩ => ⟨c, a, b, (er c 0).mp d⟩, fun ⟨c, a, b, d⟩ => ⟨c, a, b, (er c 0).mpr d⟩⟩
        have frT : ∀ o, ¬ nAl i o → T o = I o := fun o ho => (hT.2.1 o (fun z => ho (Or.inl z))).2.2.trans (go o (fun z => ho (Or.inr (by omega))) (fun z => ho (Or.inr (by omega))) (fun z => ho (Or.inr (by omega))))
        have rdI : RdD I T i l l m (dlW G) (fun _ _ => False) 0 := by
          have r0 : RdD I G i l l m (fun _ => False) (fun _ _ => False) 0 := RdD.rf.hi gt
          exact (r0.tr hT.2.2).iff (fun _ _ _ => ⟨fun z => z.elim False.elim id, Or.inr⟩) (fun _ _ => ⟨fun z => z.elim id id, Or.inl⟩) (by omega)
        have no : (∃ c, 0 ≤ c ∧ c < 192 ∧ rfG G c 0) → (fun r K2 P2 J2 I2 => K2 = K ∧ P2 = P ∧ J2 = J ∧ ((seeP I i = -1 ∧ r = .inl (some (vI 0)) ∧ I2 = I) ∨ (seeP I i ≠ -1 ∧ ∃ G, SpT (dlI I i) G ∧ (∀ c, 0 ≤ c → c < 192 → ¬ rfG G c 1) ∧ AlP I i l l m (dlW G) (fun _ _ => False) 0 (¬ ∃ c, 0 ≤ c ∧ c < 192 ∧ rfG G c 0) (dlRw I G i) r I2)) : PQ) (.inl (some (vI 0))) K P J T := fun h => ⟨rfl, rfl, rfl, Or.inr ⟨hs, G, hG, hcl, hT.1, frT, rdI, by rw [bI0 (fun z => z h)], fun z => absurd h z⟩⟩
        have yes : (¬ ∃ c, 0 ≤ c ∧ c < 192 ∧ rfG G c 0) → ∀ T2 : IT, ChX T T2 (fun z => rfG T z 2 ∨ T 1099 (z / 4) ≠ 0) (fun p => (∃ c, 0 ≤ c ∧ c < 192 ∧ c / 4 = p ∧ rfG T c 2) ∨ T 1099 p ≠ 0) → T2 1096 7 = 0 ∧ ∀ T3 : IT, (∃ n : Nat, TcI T2 T3 (tX i + 33) 48 n) → (fun r K2 P2 J2 I2 => K2 = K ∧ P2 = P ∧ J2 = J ∧ ((seeP I i = -1 ∧ r = .inl (some (vI 0)) ∧ I2 = I) ∨ (seeP I i ≠ -1 ∧ ∃ G, SpT (dlI I i) G ∧ (∀ c, 0 ≤ c → c < 192 → ¬ rfG G c 1) ∧ AlP I i l l m (dlW G) (fun _ _ => False) 0 (¬ ∃ c, 0 ≤ c ∧ c < 192 ∧ rfG G c 0) (dlRw I G i) r I2)) : PQ) (.inl (some (vI 1))) K P J T3 := fun h T2 h2 => by
          have c2 : ∀ o, o ≠ 1129 → o ≠ 1100 → T2 o = T o := h2.1
          refine ⟨(congrFun ((c2 1096 (by decide) (by decide)).trans ((tl 1096 (by decide)).trans (go 1096 (by decide) (by decide) (by decide)))) 7).trans h0, fun T3 ⟨n, h3⟩ => ?_⟩
          have c3 : ∀ o, o ≠ 1096 → o ≠ 1102 → o ≠ 1103 → T3 o = T2 o := h3.1
          have hi : ∀ o, 2000 ≤ o → T3 o = T o := fun o ho => (c3 o (by omega) (by omega) (by omega)).trans (c2 o (by omega) (by omega))
          refine ⟨rfl, rfl, rfl, Or.inr ⟨hs, G, hG, hcl, hT.1.hi hi, fun o ho => ?_, rdI.hi hi, by rw [bI1 h], fun _ => ⟨fun z z0 z1 => ?_, n, T2, fun p p0 p1 => ?_, ?_, h3.2.2.1, h3.2.2.2.1, h3.2.2.2.2⟩⟩⟩
          · exact (c3 o (fun z => ho (Or.inr (by omega))) (fun z => ho (Or.inr (by omega))) (fun z => ho (Or.inr (by omega)))).trans ((c2 o (fun z => ho (Or.inr (by omega))) (fun z => ho (Or.inr (by omega)))).trans (frT o ho))
          · rw [c3 1129 (by decide) (by decide) (by decide), h2.2.1 z z0 z1]
            show (if bI (rfG T z 2 ∨ T 1099 (z / 4) ≠ 0) = 1 then _ else _) = _
            rw [propext (er z 2), tl 1099 (by decide), tl 1129 (by decide), go 1129 (by decide) (by decide) (by decide)]
          · rw [h2.2.2 p p0 p1, tl 1100 (by decide), tl 1099 (by decide)]
            have g0 : G 1100 p = 0 := (congrFun (hG.1 1100 (by decide)) p).trans (dlI_c p p0 p1)
            constructor
            · rintro (z | ⟨c, a, b, d, e⟩ | z)
              · exact absurd g0 z
              · exact Or.inl ⟨c, a, b, d, (er c 2).mp e⟩
              · exact Or.inr z
            · rintro (⟨c, a, b, d, e⟩ | z)
              · exact Or.inr (Or.inl ⟨c, a, b, d, (er c 2).mpr e⟩)
              · exact Or.inr (Or.inr z)
          · exact (c2 _ (by omega) (by omega)).trans ((hT.2.2.2.2.1.2.1).trans (gt _ (by omega)))
        have spR := sp_Trial_isRestricted (J := J) hC tr
        rw [eR] at spR
        refine VW.aload_n (pc' := 38) d_Trial_allowsDelete_37 rfl rfl ?_
        refine VW.cV (ci := 9) (T := T9) (N := 8) (pc' := 41) d_Trial_allowsDelete_38 rfl mv_Trial_isRestricted lk_Trial_143 rfl (by first | exact hC.k 13 rfl | exact hC.k 14 rfl | exact hC.k 15 rfl | exact hC.k 16 rfl | exact hC.k 17 rfl | exact hC.k 18 rfl | exact hC.k 19 rfl | exact hC.k 20 rfl | exact hC.k 2 rfl | exact hC.k 3 rfl | exact hC.k 6 rfl | exact hC.k 7 rfl | exact hV.k | exact hV.rows.1 | exact hV.pw.2) rfl rfl rfl (Nat.le_refl _) (Nat.le_refl _) (spR) rfl rfl ?_
        refine VW.if_eq (tgt := 46) (pc' := 44) d_Trial_allowsDelete_41 rfl rfl (fun c41 => ?_) (fun c41 => ?_)
        · try have e41 := bIe c41
          refine VW.aload_n (pc' := 47) d_Trial_allowsDelete_46 rfl rfl ?_
          refine VW.cVu (ci := 9) (T := T9) (N := 8) (pc' := 50) d_Trial_allowsDelete_47 rfl mv_Trial_changeRows lk_Trial_147 rfl (by first | exact hC.k 13 rfl | exact hC.k 14 rfl | exact hC.k 15 rfl | exact hC.k 16 rfl | exact hC.k 17 rfl | exact hC.k 18 rfl | exact hC.k 19 rfl | exact hC.k 20 rfl | exact hC.k 2 rfl | exact hC.k 3 rfl | exact hC.k 6 rfl | exact hC.k 7 rfl | exact hV.k | exact hV.rows.1 | exact hV.pw.2) rfl rfl rfl (Nat.le_refl _) (Nat.le_refl _) (sp_Trial_changeRows hC tr) rfl rfl (fun T2 h2 => ?_)
          refine VW.aload_n (pc' := 51) d_Trial_allowsDelete_50 rfl rfl ?_
          refine VW.aload_n (pc' := 52) d_Trial_allowsDelete_51 rfl rfl ?_
          refine VW.gP (ci := 8) (T := T8) (N := 19) (k := 3) (k' := 3) (pc' := 55) d_Trial_allowsDelete_52 rfl lk_Trial_39 in8 rfl rfl rfl rfl (by first | exact hC.k 13 rfl | exact hC.k 14 rfl | exact hC.k 15 rfl | exact hC.k 16 rfl | exact hC.k 17 rfl | exact hC.k 18 rfl | exact hC.k 19 rfl | exact hC.k 20 rfl | exact hC.k 2 rfl | exact hC.k 3 rfl | exact hC.k 6 rfl | exact hC.k 7 rfl | exact hV.k | exact hV.rows.1 | exact hV.pw.2) (by first | exact hC.p 22 rfl | exact hC.p 23 rfl | exact hC.p 24 rfl | exact hC.p 25 rfl | exact hC.p 26 rfl | exact hC.p 27 rfl | exact hC.p 28 rfl | exact hC.p 29 rfl | exact hC.p 9 rfl | exact hC.p 12 rfl | exact hC.p 13 rfl | exact hV.pr | exact hV.pw.1 | rfl) ?_
          refine VW.cVu (ci := 9) (T := T9) (N := 8) (pc' := 58) d_Trial_allowsDelete_55 rfl mv_Trial_touchChanged lk_Trial_150 rfl (by first | exact hC.k 13 rfl | exact hC.k 14 rfl | exact hC.k 15 rfl | exact hC.k 16 rfl | exact hC.k 17 rfl | exact hC.k 18 rfl | exact hC.k 19 rfl | exact hC.k 20 rfl | exact hC.k 2 rfl | exact hC.k 3 rfl | exact hC.k 6 rfl | exact hC.k 7 rfl | exact hV.k | exact hV.rows.1 | exact hV.pw.2) rfl rfl rfl (Nat.le_refl _) (Nat.le_refl _) (sp_Trial_touchChanged hC hV.rows (by omega) (yes (bIe c41) T2 h2).1) rfl rfl (fun T3 h3 => ?_)
          refine VW.iconst (pc' := 59) d_Trial_allowsDelete_58 rfl (by decide) ?_
          exact VW.iret d_Trial_allowsDelete_59 rfl rfl (Nat.zero_le _) (Nat.zero_le _) ((yes (bIe c41) T2 h2).2 T3 h3)
        · try have e41 := bIn c41
          refine VW.iconst (pc' := 45) d_Trial_allowsDelete_44 rfl (by decide) ?_
          exact VW.iret d_Trial_allowsDelete_45 rfl rfl (Nat.zero_le _) (Nat.zero_le _) (no (bIn c41))
      refine VW.aload_n (pc' := 33) d_Trial_allowsDelete_32 rfl rfl ?_
      refine VW.aload_n (pc' := 34) d_Trial_allowsDelete_33 rfl rfl ?_
      refine VW.cVu (ci := 9) (T := T9) (N := 8) (pc' := 37) d_Trial_allowsDelete_34 rfl mv_Trial_readReferring lk_Trial_139 rfl (by first | exact hC.k 13 rfl | exact hC.k 14 rfl | exact hC.k 15 rfl | exact hC.k 16 rfl | exact hC.k 17 rfl | exact hC.k 18 rfl | exact hC.k 19 rfl | exact hC.k 20 rfl | exact hC.k 2 rfl | exact hC.k 3 rfl | exact hC.k 6 rfl | exact hC.k 7 rfl | exact hV.k | exact hV.rows.1 | exact hV.pw.2) rfl rfl rfl (Nat.le_refl _) (Nat.le_refl _) (sp_Trial_readReferring hC hV gN gB.1 gB.2.1) rfl rfl (fun T2 h2 => ?_)
      refine VW.pick [0, 1, 2] ?_
      exact t2 T2 h2
    have hD : dlI I i = up2 (faI I (tX i + 33) 192) 1099 (seeP I i) 1 := rfl
    refine VW.aload_n (pc' := 1) d_Trial_allowsDelete_0 rfl rfl ?_
    refine VW.aload_n (pc' := 2) d_Trial_allowsDelete_1 rfl rfl ?_
    refine VW.cV (ci := 9) (T := T9) (N := 8) (pc' := 5) d_Trial_allowsDelete_2 rfl mv_Trial_seenPlace lk_Trial_113 rfl (by first | exact hC.k 13 rfl | exact hC.k 14 rfl | exact hC.k 15 rfl | exact hC.k 16 rfl | exact hC.k 17 rfl | exact hC.k 18 rfl | exact hC.k 19 rfl | exact hC.k 20 rfl | exact hC.k 2 rfl | exact hC.k 3 rfl | exact hC.k 6 rfl | exact hC.k 7 rfl | exact hV.k | exact hV.rows.1 | exact hV.pw.2) rfl rfl rfl (Nat.le_refl _) (Nat.le_refl _) (spS) rfl rfl ?_
    refine VW.istore_n (pc' := 6) d_Trial_allowsDelete_5 rfl rfl ?_
    refine VW.iload_n (pc' := 7) d_Trial_allowsDelete_6 rfl rfl ?_
    refine VW.iconst (pc' := 8) d_Trial_allowsDelete_7 rfl (by decide) ?_
    refine VW.icmp_ne (tgt := 13) (pc' := 11) d_Trial_allowsDelete_8 rfl rfl (fun c8 => ?_) (fun c8 => ?_)
    case refine_2 => exact absurd c8 (by omega)
    refine VW.aload_n (pc' := 14) d_Trial_allowsDelete_13 rfl rfl ?_
    refine VW.aload_n (pc' := 15) d_Trial_allowsDelete_14 rfl rfl ?_
    refine VW.gP (ci := 8) (T := T8) (N := 19) (k := 3) (k' := 3) (pc' := 18) d_Trial_allowsDelete_15 rfl lk_Trial_39 in8 rfl rfl rfl rfl (by first | exact hC.k 13 rfl | exact hC.k 14 rfl | exact hC.k 15 rfl | exact hC.k 16 rfl | exact hC.k 17 rfl | exact hC.k 18 rfl | exact hC.k 19 rfl | exact hC.k 20 rfl | exact hC.k 2 rfl | exact hC.k 3 rfl | exact hC.k 6 rfl | exact hC.k 7 rfl | exact hV.k | exact hV.rows.1 | exact hV.pw.2) (by first | exact hC.p 22 rfl | exact hC.p 23 rfl | exact hC.p 24 rfl | exact hC.p 25 rfl | exact hC.p 26 rfl | exact hC.p 27 rfl | exact hC.p 28 rfl | exact hC.p 29 rfl | exact hC.p 9 rfl | exact hC.p 12 rfl | exact hC.p 13 rfl | exact hV.pr | exact hV.pw.1 | rfl) ?_
    refine VW.cV (ci := 9) (T := T9) (N := 8) (pc' := 21) d_Trial_allowsDelete_18 rfl mv_Trial_findAllReferred lk_Trial_133 rfl (by first | exact hC.k 13 rfl | exact hC.k 14 rfl | exact hC.k 15 rfl | exact hC.k 16 rfl | exact hC.k 17 rfl | exact hC.k 18 rfl | exact hC.k 19 rfl | exact hC.k 20 rfl | exact hC.k 2 rfl | exact hC.k 3 rfl | exact hC.k 6 rfl | exact hC.k 7 rfl | exact hV.k | exact hV.rows.1 | exact hV.pw.2) rfl rfl rfl (Nat.le_refl _) (Nat.le_refl _) (sp_Trial_findAllReferred hC hV.rows (by omega) hB.2.2.2.2.1) rfl rfl ?_
    refine VW.aload_n (pc' := 22) d_Trial_allowsDelete_21 rfl rfl ?_
    refine VW.gP (ci := 9) (T := T9) (N := 8) (k := 2) (k' := 2) (pc' := 25) d_Trial_allowsDelete_22 rfl lk_Trial_18 in9 rfl rfl rfl rfl (by first | exact hC.k 13 rfl | exact hC.k 14 rfl | exact hC.k 15 rfl | exact hC.k 16 rfl | exact hC.k 17 rfl | exact hC.k 18 rfl | exact hC.k 19 rfl | exact hC.k 20 rfl | exact hC.k 2 rfl | exact hC.k 3 rfl | exact hC.k 6 rfl | exact hC.k 7 rfl | exact hV.k | exact hV.rows.1 | exact hV.pw.2) (by first | exact hC.p 22 rfl | exact hC.p 23 rfl | exact hC.p 24 rfl | exact hC.p 25 rfl | exact hC.p 26 rfl | exact hC.p 27 rfl | exact hC.p 28 rfl | exact hC.p 29 rfl | exact hC.p 9 rfl | exact hC.p 12 rfl | exact hC.p 13 rfl | exact hV.pr | exact hV.pw.1 | rfl) ?_
    refine VW.iload_n (pc' := 26) d_Trial_allowsDelete_25 rfl rfl ?_
    refine VW.iconst (pc' := 27) d_Trial_allowsDelete_26 rfl (by decide) ?_
    refine VW.zast (pc' := 28) d_Trial_allowsDelete_27 rfl (by first | exact hC.k 13 rfl | exact hC.k 14 rfl | exact hC.k 15 rfl | exact hC.k 16 rfl | exact hC.k 17 rfl | exact hC.k 18 rfl | exact hC.k 19 rfl | exact hC.k 20 rfl | exact hC.k 2 rfl | exact hC.k 3 rfl | exact hC.k 6 rfl | exact hC.k 7 rfl | exact hV.k | exact hV.rows.1 | exact hV.pw.2) (by omega) (by omega) (by omega) ?_
    refine VW.aload_n (pc' := 29) d_Trial_allowsDelete_28 rfl rfl ?_
    refine VW.cVu (ci := 9) (T := T9) (N := 8) (pc' := 32) d_Trial_allowsDelete_29 rfl mv_Trial_spreadCascades lk_Trial_136 rfl (by first | exact hC.k 13 rfl | exact hC.k 14 rfl | exact hC.k 15 rfl | exact hC.k 16 rfl | exact hC.k 17 rfl | exact hC.k 18 rfl | exact hC.k 19 rfl | exact hC.k 20 rfl | exact hC.k 2 rfl | exact hC.k 3 rfl | exact hC.k 6 rfl | exact hC.k 7 rfl | exact hV.k | exact hV.rows.1 | exact hV.pw.2) rfl rfl rfl (Nat.le_refl _) (Nat.le_refl _) (sp_Trial_spreadCascades (I := dlI I i) hC (dlI_r hB) dlI_g) rfl rfl (fun T2 h2 => ?_)
    refine VW.pick [0, 1, 2] ?_
    exact tail T2 h2.1 h2.2
end
