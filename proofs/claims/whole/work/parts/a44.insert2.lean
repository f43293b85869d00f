section
variable {K : KT} {P : PT} {J I : IT}
theorem TxN.hi {I1 I2 : IT} {i l m : Nat} (h : TxN I1 i l m) (e : ∀ o, 2000 ≤ o → I2 o = I1 o) : TxN I2 i l m := by
  unfold TxN at *
  rw [e (tX i) (by unfold tX; omega), e (tX i + 40 + l) (by unfold tX; omega), e (tX i + 80 + m) (by unfold tX; omega)]
  exact h
theorem RdD.hi {I1 I2 : IT} {i l l' m : Nat} {W : Int → Prop} {Y : Int → Int → Prop} {c : Int} (h : RdD I I1 i l l' m W Y c) (e : ∀ o, 2000 ≤ o → I2 o = I1 o) : RdD I I2 i l l' m W Y c := by
  have e0 := e (tX i) (by unfold tX; omega)
  obtain ⟨a1, a2, ⟨a3, a4, a5⟩, a6, a7⟩ := h
  refine ⟨fun k k1 k2 => by rw [e0]; exact a1 k k1 k2, by rw [e0]; exact a2, ⟨(e _ (by unfold tX; omega)).trans a3, (e _ (by unfold tX; omega)).trans a4, (e _ (by unfold tX; omega)).trans a5⟩, fun t t0 t1 => ?_, fun t y => ?_⟩
  · rw [← a6 t t0 t1, whOf_iff, whOf_iff, e0]
  · rw [← a7, rdOf_iff, rdOf_iff, e0, e (tX i + 40 + l') (by unfold tX; omega), e (tX i + 60 + l') (by unfold tX; omega)]
theorem AlP.mk' {I1 I2 : IT} {i l l' m : Nat} {W : Int → Prop} {Y : Int → Int → Prop} {c : Int} {ok : Prop} {Rw : IT → Prop} {r : Option AV ⊕ String} (hN : TxN I1 i l' m) (hd : RdD I I1 i l l' m W Y c) (hf : ∀ o, ¬ nTx i o → I1 o = I o) (he : ∀ o, ¬ (o = 1129 ∨ o = 1096 ∨ (1099 ≤ o ∧ o ≤ 1103)) → I2 o = I1 o) (hr : r = .inl (some (vI (bI ok)))) (hR : ok → Rw I2) : AlP I i l l' m W Y c ok Rw r I2 := by
  have hi : ∀ o, 2000 ≤ o → I2 o = I1 o := fun o ho => he o (by omega)
  exact ⟨hN.hi hi, fun o ho => (he o (fun z => ho (Or.inr z))).trans (hf o (fun z => ho (Or.inl z))), hd.hi hi, hr, hR⟩
/-- an insert can be done -/
def insOk (I : IT) (i : Nat) : Prop := I (tX i) 9 ≠ -2147483648 ∧ rwF I 1129 (I (tX i) 8) (-2147483648) ≠ -1 ∧ rwFind I 1129 (I (tX i) 8) (I (tX i) 9) = -1 ∧ scPass I 1035 1036 (tX i + 13) (I (tX i) 8) 0 = 1 ∧ ∀ c, 1 ≤ c → c < I 1034 (I (tX i) 8) → frC I i c (I (tX i + 13) c)
def insY (I : IT) (i : Nat) (t y : Int) : Prop := (I (tX i) 9 ≠ -2147483648 ∧ t = I (tX i) 8 ∧ y = I (tX i) 9) ∨ ∃ j, 1 ≤ j ∧ j < I 1034 (I (tX i) 8) ∧ frY I i j (I (tX i + 13) j) t y
/-- and leaves -/
def insRw (I : IT) (i : Nat) (T : IT) : Prop := T 1129 = cpyI I (tX i + 13) 0 1129 (rwF I 1129 (I (tX i) 8) (-2147483648) * 4) 4 1129 ∧ T 1096 7 = 1 ∧ trL T 1 = [(I (tX i) 8, I (tX i) 9)]
theorem TchP.first {I1 T : IT} {k : Nat} {t y : Int} (h : TchP I1 T 0 k t y) : T 1096 7 = 1 ∧ trL T 1 = [(t, y)] := by
  obtain ⟨b1, b2, b3, b4, b5, -⟩ := h
  have ek : k = 0 := by omega
  subst ek
  exact ⟨b3, b5⟩
theorem ins_tail {i l0 l m C N cs ns : Nat} {W : Int → Prop} {Y : Int → Int → Prop} {cnt fl : Int} {I1 : IT} (hC : ClW K P) (hV : TxV K P i l m) (hN : TxN I1 i l m) (hB : SchB I) (ht : 0 ≤ I (tX i) 8 ∧ I (tX i) 8 < 6) (h0 : I 1096 7 = 0) (hE : InE I I1 i) (hd : RdD I I1 i l0 l m W Y cnt) (hfl : fl = bI ((1 : Int) = 1 ∧ ∀ j, 1 ≤ j → j < I 1034 (I (tX i) 8) → frC I i j (I (tX i + 13) j))) (hcs : cs ≤ C) (hns : ns ≤ N) :
    VW m_Trial_allowsInsert false ({ frames := 6, cells := C, slots := N, locals := 240 } : Room) (fun r K2 P2 J2 I2 => K2 = K ∧ P2 = P ∧ J2 = J ∧ AlP I i l0 l m W Y cnt (insOk I i) (insRw I i) r I2 : PQ) K P J I1 cs ns 65 [(0, vR (some 1096)), (1, vR (some (tX i))), (2, vI (I (tX i) 8)), (3, vI fl)] [] := by
  have e9 : I1 (tX i) 9 = I (tX i) 9 := hE.1 9 (by decide) (by decide)
  have e29 : I1 1129 = I 1129 := hE.2.2 1129 (nTx_hi (by decide))
  have e13 := hE.2.1.1
  have eF := rwF_of e29
  have eP : scPass I1 1035 1036 (tX i + 13) (I (tX i) 8) 0 = scPass I 1035 1036 (tX i + 13) (I (tX i) 8) 0 := scPass_of (hE.2.2 1035 (nTx_hi (by decide))) (hE.2.2 1036 (nTx_hi (by decide))) e13
  have B1 := hB.in hE
  have pb := bI_01 (∀ j : Int, 0 ≤ j → j < I 1035 (I (tX i) 8) → scChk I 1036 (tX i + 13) (I (tX i) 8) 0 j)
  have rg := rwF_rg I 1129 (I (tX i) 8) (-2147483648)
  have no : ∀ v : Int, v = 0 → ¬ insOk I i → (fun r K2 P2 J2 I2 => K2 = K ∧ P2 = P ∧ J2 = J ∧ AlP I i l0 l m W Y cnt (insOk I i) (insRw I i) r I2 : PQ) (.inl (some (vI v))) K P J I1 := fun v hv h => ⟨rfl, rfl, rfl, AlP.mk' hN hd hE.2.2 (fun _ _ => rfl) (by rw [hv, bI0 h]) (fun z => absurd z h)⟩
  have n1 : fl = 0 → ¬ insOk I i := fun h z => by
    rw [hfl] at h
    exact bIe h ⟨rfl, z.2.2.2.2⟩
  have n2 : I (tX i) 9 = -2147483648 → ¬ insOk I i := fun h z => z.1 h
  have n3 : rwF I 1129 (I (tX i) 8) (-2147483648) = -1 → ¬ insOk I i := fun h z => z.2.1 h
  have n4 : rwFind I 1129 (I (tX i) 8) (I (tX i) 9) ≠ -1 → ¬ insOk I i := fun h z => h z.2.2.1
  have n5 : scPass I 1035 1036 (tX i + 13) (I (tX i) 8) 0 = 0 → ¬ insOk I i := fun h z => by have := z.2.2.2.1; omega
  have ok : fl ≠ 0 → I (tX i) 9 ≠ -2147483648 → rwF I 1129 (I (tX i) 8) (-2147483648) ≠ -1 → rwFind I 1129 (I (tX i) 8) (I (tX i) 9) = -1 → scPass I 1035 1036 (tX i + 13) (I (tX i) 8) 0 ≠ 0 → insOk I i := fun a b c d e => ⟨b, c, d, pb.resolve_left e, fun c c0 c1 => (bIn (p := (1 : Int) = 1 ∧ ∀ j, 1 ≤ j → j < I 1034 (I (tX i) 8) → frC I i j (I (tX i + 13) j)) (by rw [← hfl]; exact a)).2 c c0 c1⟩
  have e7 : ∀ z, cpyI I1 (tX i + 13) 0 1129 z 4 1096 7 = (0 : Nat) := fun z => (if_neg (fun q => absurd q.1 (by decide))).trans ((congrFun (hE.2.2 1096 (nTx_hi (by decide))) 7).trans h0)
  have yes : insOk I i → ∀ T, (∃ k : Nat, TchP (cpyI I1 (tX i + 13) 0 1129 (rwF I 1129 (I (tX i) 8) (-2147483648) * 4) 4) T 0 k (I (tX i) 8) (I (tX i) 9)) → (fun r K2 P2 J2 I2 => K2 = K ∧ P2 = P ∧ J2 = J ∧ AlP I i l0 l m W Y cnt (insOk I i) (insRw I i) r I2 : PQ) (.inl (some (vI 1))) K P J T := fun h T ⟨k, hT⟩ => by
    refine ⟨rfl, rfl, rfl, AlP.mk' hN hd hE.2.2 (fun o ho => (hT.1 o (by omega) (by omega) (by omega)).trans (funext (fun z => if_neg (fun q => ho (Or.inl q.1))))) (by rw [bI1 h]) (fun _ => ⟨(hT.1 1129 (by decide) (by decide) (by decide)).trans ?_, hT.first⟩)⟩
    funext z
    unfold cpyI
    rw [e13, e29]
  have a9 : ∀ z y, cpyI I1 (tX i + 13) 0 1129 z 4 (tX i) y = I1 (tX i) y := fun z y => if_neg (fun q => by have := q.1; unfold tX at this; omega)
  have e9' : ∀ z, cpyI I1 (tX i + 13) 0 1129 z 4 (tX i) 9 = I (tX i) 9 := fun z => (a9 z 9).trans e9
  refine VW.aload_n (pc' := 66) d_Trial_allowsInsert_65 rfl rfl ?_
  refine VW.gP (ci := 9) (T := T9) (N := 8) (k := 1) (k' := 1) (pc' := 69) d_Trial_allowsInsert_66 rfl lk_Trial_12 in9 rfl rfl rfl rfl (by first | exact hC.k 13 rfl | exact hC.k 14 rfl | exact hC.k 15 rfl | exact hC.k 16 rfl | exact hC.k 17 rfl | exact hC.k 18 rfl | exact hC.k 19 rfl | exact hC.k 20 rfl | exact hC.k 2 rfl | exact hC.k 3 rfl | exact hC.k 6 rfl | exact hC.k 7 rfl | exact hV.k | exact hV.rows.1 | exact hV.pw.2) (by first | exact hC.p 22 rfl | exact hC.p 23 rfl | exact hC.p 24 rfl | exact hC.p 25 rfl | exact hC.p 26 rfl | exact hC.p 27 rfl | exact hC.p 28 rfl | exact hC.p 29 rfl | exact hC.p 9 rfl | exact hC.p 12 rfl | exact hC.p 13 rfl | exact e9 | exact hV.pr | exact hV.pw.1 | exact e9' _ | rfl) ?_
  refine VW.iload_n (pc' := 70) d_Trial_allowsInsert_69 rfl rfl ?_
  refine VW.cV (ci := 6) (T := T6) (N := 1) (pc' := 73) d_Trial_allowsInsert_70 rfl mv_Rows_findFree lk_Trial_88 rfl (by first | exact hC.k 13 rfl | exact hC.k 14 rfl | exact hC.k 15 rfl | exact hC.k 16 rfl | exact hC.k 17 rfl | exact hC.k 18 rfl | exact hC.k 19 rfl | exact hC.k 20 rfl | exact hC.k 2 rfl | exact hC.k 3 rfl | exact hC.k 6 rfl | exact hC.k 7 rfl | exact hV.k | exact hV.rows.1 | exact hV.pw.2) rfl rfl rfl (by show cs + 0 ≤ C; omega) (by show ns + 0 ≤ N; omega) (sp_Rows_findFree hC.af ht) rfl rfl ?_
  rw [(eF _ _).1]
  refine VW.istore (pc' := 75) d_Trial_allowsInsert_73 rfl rfl ?_
  refine VW.iload_n (pc' := 76) d_Trial_allowsInsert_75 rfl rfl ?_
  refine VW.if_eq (tgt := 126) (pc' := 79) d_Trial_allowsInsert_76 rfl rfl (fun c76 => ?_) (fun c76 => ?_)
  · try have e76 := bIe c76
    refine VW.iconst (pc' := 127) d_Trial_allowsInsert_126 rfl (by decide) ?_
    exact VW.iret d_Trial_allowsInsert_127 rfl rfl (by omega) (by omega) (by first | exact no 0 rfl (n1 c76) | exact no 0 rfl (n2 c85) | exact no 0 rfl (n3 c91) | exact no 0 rfl (n4 c107) | exact no 0 rfl (n5 c123))
  · try have e76 := bIn c76
    refine VW.aload_n (pc' := 80) d_Trial_allowsInsert_79 rfl rfl ?_
    refine VW.gI (ci := 8) (T := T8) (N := 19) (k := 9) (k' := 9) (pc' := 83) d_Trial_allowsInsert_80 rfl lk_Trial_62 in8 rfl rfl rfl rfl (by first | exact hC.k 13 rfl | exact hC.k 14 rfl | exact hC.k 15 rfl | exact hC.k 16 rfl | exact hC.k 17 rfl | exact hC.k 18 rfl | exact hC.k 19 rfl | exact hC.k 20 rfl | exact hC.k 2 rfl | exact hC.k 3 rfl | exact hC.k 6 rfl | exact hC.k 7 rfl | exact hV.k | exact hV.rows.1 | exact hV.pw.2) (by first | exact hC.p 22 rfl | exact hC.p 23 rfl | exact hC.p 24 rfl | exact hC.p 25 rfl | exact hC.p 26 rfl | exact hC.p 27 rfl | exact hC.p 28 rfl | exact hC.p 29 rfl | exact hC.p 9 rfl | exact hC.p 12 rfl | exact hC.p 13 rfl | exact e9 | exact hV.pr | exact hV.pw.1 | exact e9' _ | rfl) ?_
    refine VW.ldc (pc' := 85) (z := -2147483648) d_Trial_allowsInsert_83 rfl lk_Trial_75 (by decide) (by decide) ?_
    refine VW.icmp_eq (tgt := 126) (pc' := 88) d_Trial_allowsInsert_85 rfl rfl (fun c85 => ?_) (fun c85 => ?_)
    · refine VW.iconst (pc' := 127) d_Trial_allowsInsert_126 rfl (by decide) ?_
      exact VW.iret d_Trial_allowsInsert_127 rfl rfl (by omega) (by omega) (by first | exact no 0 rfl (n1 c76) | exact no 0 rfl (n2 c85) | exact no 0 rfl (n3 c91) | exact no 0 rfl (n4 c107) | exact no 0 rfl (n5 c123))
    · refine VW.iload (pc' := 90) d_Trial_allowsInsert_88 rfl rfl ?_
      refine VW.iconst (pc' := 91) d_Trial_allowsInsert_90 rfl (by decide) ?_
      refine VW.icmp_eq (tgt := 126) (pc' := 94) d_Trial_allowsInsert_91 rfl rfl (fun c91 => ?_) (fun c91 => ?_)
      · refine VW.iconst (pc' := 127) d_Trial_allowsInsert_126 rfl (by decide) ?_
        exact VW.iret d_Trial_allowsInsert_127 rfl rfl (by omega) (by omega) (by first | exact no 0 rfl (n1 c76) | exact no 0 rfl (n2 c85) | exact no 0 rfl (n3 c91) | exact no 0 rfl (n4 c107) | exact no 0 rfl (n5 c123))
      · refine VW.aload_n (pc' := 95) d_Trial_allowsInsert_94 rfl rfl ?_
        refine VW.gP (ci := 9) (T := T9) (N := 8) (k := 1) (k' := 1) (pc' := 98) d_Trial_allowsInsert_95 rfl lk_Trial_12 in9 rfl rfl rfl rfl (by first | exact hC.k 13 rfl | exact hC.k 14 rfl | exact hC.k 15 rfl | exact hC.k 16 rfl | exact hC.k 17 rfl | exact hC.k 18 rfl | exact hC.k 19 rfl | exact hC.k 20 rfl | exact hC.k 2 rfl | exact hC.k 3 rfl | exact hC.k 6 rfl | exact hC.k 7 rfl | exact hV.k | exact hV.rows.1 | exact hV.pw.2) (by first | exact hC.p 22 rfl | exact hC.p 23 rfl | exact hC.p 24 rfl | exact hC.p 25 rfl | exact hC.p 26 rfl | exact hC.p 27 rfl | exact hC.p 28 rfl | exact hC.p 29 rfl | exact hC.p 9 rfl | exact hC.p 12 rfl | exact hC.p 13 rfl | exact e9 | exact hV.pr | exact hV.pw.1 | exact e9' _ | rfl) ?_
        refine VW.iload_n (pc' := 99) d_Trial_allowsInsert_98 rfl rfl ?_
        refine VW.aload_n (pc' := 100) d_Trial_allowsInsert_99 rfl rfl ?_
        refine VW.gI (ci := 8) (T := T8) (N := 19) (k := 9) (k' := 9) (pc' := 103) d_Trial_allowsInsert_100 rfl lk_Trial_62 in8 rfl rfl rfl rfl (by first | exact hC.k 13 rfl | exact hC.k 14 rfl | exact hC.k 15 rfl | exact hC.k 16 rfl | exact hC.k 17 rfl | exact hC.k 18 rfl | exact hC.k 19 rfl | exact hC.k 20 rfl | exact hC.k 2 rfl | exact hC.k 3 rfl | exact hC.k 6 rfl | exact hC.k 7 rfl | exact hV.k | exact hV.rows.1 | exact hV.pw.2) (by first | exact hC.p 22 rfl | exact hC.p 23 rfl | exact hC.p 24 rfl | exact hC.p 25 rfl | exact hC.p 26 rfl | exact hC.p 27 rfl | exact hC.p 28 rfl | exact hC.p 29 rfl | exact hC.p 9 rfl | exact hC.p 12 rfl | exact hC.p 13 rfl | exact e9 | exact hV.pr | exact hV.pw.1 | exact e9' _ | rfl) ?_
        refine VW.cV (ci := 6) (T := T6) (N := 1) (pc' := 106) d_Trial_allowsInsert_103 rfl mv_Rows_find lk_Trial_92 rfl (by first | exact hC.k 13 rfl | exact hC.k 14 rfl | exact hC.k 15 rfl | exact hC.k 16 rfl | exact hC.k 17 rfl | exact hC.k 18 rfl | exact hC.k 19 rfl | exact hC.k 20 rfl | exact hC.k 2 rfl | exact hC.k 3 rfl | exact hC.k 6 rfl | exact hC.k 7 rfl | exact hV.k | exact hV.rows.1 | exact hV.pw.2) rfl rfl rfl (by show cs + 0 ≤ C; omega) (by show ns + 0 ≤ N; omega) (sp_Rows_find hC.af ht) rfl rfl ?_
        rw [(eF _ _).2]
        refine VW.iconst (pc' := 107) d_Trial_allowsInsert_106 rfl (by decide) ?_
        refine VW.icmp_ne (tgt := 126) (pc' := 110) d_Trial_allowsInsert_107 rfl rfl (fun c107 => ?_) (fun c107 => ?_)
        · refine VW.iconst (pc' := 127) d_Trial_allowsInsert_126 rfl (by decide) ?_
          exact VW.iret d_Trial_allowsInsert_127 rfl rfl (by omega) (by omega) (by first | exact no 0 rfl (n1 c76) | exact no 0 rfl (n2 c85) | exact no 0 rfl (n3 c91) | exact no 0 rfl (n4 c107) | exact no 0 rfl (n5 c123))
        · refine VW.aload_n (pc' := 111) d_Trial_allowsInsert_110 rfl rfl ?_
          refine VW.gP (ci := 9) (T := T9) (N := 8) (k := 0) (k' := 0) (pc' := 114) d_Trial_allowsInsert_111 rfl lk_Trial_35 in9 rfl rfl rfl rfl (by first | exact hC.k 13 rfl | exact hC.k 14 rfl | exact hC.k 15 rfl | exact hC.k 16 rfl | exact hC.k 17 rfl | exact hC.k 18 rfl | exact hC.k 19 rfl | exact hC.k 20 rfl | exact hC.k 2 rfl | exact hC.k 3 rfl | exact hC.k 6 rfl | exact hC.k 7 rfl | exact hV.k | exact hV.rows.1 | exact hV.pw.2) (by first | exact hC.p 22 rfl | exact hC.p 23 rfl | exact hC.p 24 rfl | exact hC.p 25 rfl | exact hC.p 26 rfl | exact hC.p 27 rfl | exact hC.p 28 rfl | exact hC.p 29 rfl | exact hC.p 9 rfl | exact hC.p 12 rfl | exact hC.p 13 rfl | exact e9 | exact hV.pr | exact hV.pw.1 | exact e9' _ | rfl) ?_
          refine VW.iload_n (pc' := 115) d_Trial_allowsInsert_114 rfl rfl ?_
          refine VW.aload_n (pc' := 116) d_Trial_allowsInsert_115 rfl rfl ?_
          refine VW.gP (ci := 8) (T := T8) (N := 19) (k := 12) (k' := 12) (pc' := 119) d_Trial_allowsInsert_116 rfl lk_Trial_81 in8 rfl rfl rfl rfl (by first | exact hC.k 13 rfl | exact hC.k 14 rfl | exact hC.k 15 rfl | exact hC.k 16 rfl | exact hC.k 17 rfl | exact hC.k 18 rfl | exact hC.k 19 rfl | exact hC.k 20 rfl | exact hC.k 2 rfl | exact hC.k 3 rfl | exact hC.k 6 rfl | exact hC.k 7 rfl | exact hV.k | exact hV.rows.1 | exact hV.pw.2) (by first | exact hC.p 22 rfl | exact hC.p 23 rfl | exact hC.p 24 rfl | exact hC.p 25 rfl | exact hC.p 26 rfl | exact hC.p 27 rfl | exact hC.p 28 rfl | exact hC.p 29 rfl | exact hC.p 9 rfl | exact hC.p 12 rfl | exact hC.p 13 rfl | exact e9 | exact hV.pr | exact hV.pw.1 | exact e9' _ | rfl) ?_
          refine VW.iconst (pc' := 120) d_Trial_allowsInsert_119 rfl (by decide) ?_
          refine VW.cV (ci := 7) (T := T7) (N := 8) (pc' := 123) d_Trial_allowsInsert_120 rfl mv_Schema_passesChecks lk_Trial_96 rfl (by first | exact hC.k 13 rfl | exact hC.k 14 rfl | exact hC.k 15 rfl | exact hC.k 16 rfl | exact hC.k 17 rfl | exact hC.k 18 rfl | exact hC.k 19 rfl | exact hC.k 20 rfl | exact hC.k 2 rfl | exact hC.k 3 rfl | exact hC.k 6 rfl | exact hC.k 7 rfl | exact hV.k | exact hV.rows.1 | exact hV.pw.2) rfl rfl rfl (by show cs + 0 ≤ C; omega) (by show ns + 0 ≤ N; omega) (sp_Schema_passesChecks hC.sc hV.pw.2 ht (B1.2.2.1 _ ht.1 ht.2) (fun j j0 j1 => B1.2.2.2.1 _ j ht.1 ht.2 j0 j1) (by decide)) rfl rfl ?_
          rw [eP]
          refine VW.if_ne (tgt := 128) (pc' := 126) d_Trial_allowsInsert_123 rfl rfl (fun c123 => ?_) (fun c123 => ?_)
          · try have e123 := bIn c123
            refine VW.aload_n (pc' := 129) d_Trial_allowsInsert_128 rfl rfl ?_
            refine VW.gP (ci := 9) (T := T9) (N := 8) (k := 1) (k' := 1) (pc' := 132) d_Trial_allowsInsert_129 rfl lk_Trial_12 in9 rfl rfl rfl rfl (by first | exact hC.k 13 rfl | exact hC.k 14 rfl | exact hC.k 15 rfl | exact hC.k 16 rfl | exact hC.k 17 rfl | exact hC.k 18 rfl | exact hC.k 19 rfl | exact hC.k 20 rfl | exact hC.k 2 rfl | exact hC.k 3 rfl | exact hC.k 6 rfl | exact hC.k 7 rfl | exact hV.k | exact hV.rows.1 | exact hV.pw.2) (by first | exact hC.p 22 rfl | exact hC.p 23 rfl | exact hC.p 24 rfl | exact hC.p 25 rfl | exact hC.p 26 rfl | exact hC.p 27 rfl | exact hC.p 28 rfl | exact hC.p 29 rfl | exact hC.p 9 rfl | exact hC.p 12 rfl | exact hC.p 13 rfl | exact e9 | exact hV.pr | exact hV.pw.1 | exact e9' _ | rfl) ?_
            refine VW.iload (pc' := 134) d_Trial_allowsInsert_132 rfl rfl ?_
            refine VW.aload_n (pc' := 135) d_Trial_allowsInsert_134 rfl rfl ?_
            refine VW.gP (ci := 8) (T := T8) (N := 19) (k := 12) (k' := 12) (pc' := 138) d_Trial_allowsInsert_135 rfl lk_Trial_81 in8 rfl rfl rfl rfl (by first | exact hC.k 13 rfl | exact hC.k 14 rfl | exact hC.k 15 rfl | exact hC.k 16 rfl | exact hC.k 17 rfl | exact hC.k 18 rfl | exact hC.k 19 rfl | exact hC.k 20 rfl | exact hC.k 2 rfl | exact hC.k 3 rfl | exact hC.k 6 rfl | exact hC.k 7 rfl | exact hV.k | exact hV.rows.1 | exact hV.pw.2) (by first | exact hC.p 22 rfl | exact hC.p 23 rfl | exact hC.p 24 rfl | exact hC.p 25 rfl | exact hC.p 26 rfl | exact hC.p 27 rfl | exact hC.p 28 rfl | exact hC.p 29 rfl | exact hC.p 9 rfl | exact hC.p 12 rfl | exact hC.p 13 rfl | exact e9 | exact hV.pr | exact hV.pw.1 | exact e9' _ | rfl) ?_
            refine VW.iconst (pc' := 139) d_Trial_allowsInsert_138 rfl (by decide) ?_
            refine VW.cV (ci := 6) (T := T6) (N := 1) (pc' := 142) d_Trial_allowsInsert_139 rfl mv_Rows_put lk_Trial_100 rfl (by first | exact hC.k 13 rfl | exact hC.k 14 rfl | exact hC.k 15 rfl | exact hC.k 16 rfl | exact hC.k 17 rfl | exact hC.k 18 rfl | exact hC.k 19 rfl | exact hC.k 20 rfl | exact hC.k 2 rfl | exact hC.k 3 rfl | exact hC.k 6 rfl | exact hC.k 7 rfl | exact hV.k | exact hV.rows.1 | exact hV.pw.2) rfl rfl rfl (by show cs + 0 ≤ C; omega) (by show ns + 0 ≤ N; omega) (sp_Rows_put hC.af (by omega) hV.pw.2 (by decide)) rfl rfl ?_
            refine VW.aload_n (pc' := 143) d_Trial_allowsInsert_142 rfl rfl ?_
            refine VW.iload_n (pc' := 144) d_Trial_allowsInsert_143 rfl rfl ?_
            refine VW.aload_n (pc' := 145) d_Trial_allowsInsert_144 rfl rfl ?_
            refine VW.gI (ci := 8) (T := T8) (N := 19) (k := 9) (k' := 9) (pc' := 148) d_Trial_allowsInsert_145 rfl lk_Trial_62 in8 rfl rfl rfl rfl (by first | exact hC.k 13 rfl | exact hC.k 14 rfl | exact hC.k 15 rfl | exact hC.k 16 rfl | exact hC.k 17 rfl | exact hC.k 18 rfl | exact hC.k 19 rfl | exact hC.k 20 rfl | exact hC.k 2 rfl | exact hC.k 3 rfl | exact hC.k 6 rfl | exact hC.k 7 rfl | exact hV.k | exact hV.rows.1 | exact hV.pw.2) (by first | exact hC.p 22 rfl | exact hC.p 23 rfl | exact hC.p 24 rfl | exact hC.p 25 rfl | exact hC.p 26 rfl | exact hC.p 27 rfl | exact hC.p 28 rfl | exact hC.p 29 rfl | exact hC.p 9 rfl | exact hC.p 12 rfl | exact hC.p 13 rfl | exact e9 | exact hV.pr | exact hV.pw.1 | exact e9' _ | rfl) ?_
            refine VW.cVu (ci := 9) (T := T9) (N := 8) (pc' := 151) d_Trial_allowsInsert_148 rfl mv_Trial_touch lk_Trial_104 rfl (by first | exact hC.k 13 rfl | exact hC.k 14 rfl | exact hC.k 15 rfl | exact hC.k 16 rfl | exact hC.k 17 rfl | exact hC.k 18 rfl | exact hC.k 19 rfl | exact hC.k 20 rfl | exact hC.k 2 rfl | exact hC.k 3 rfl | exact hC.k 6 rfl | exact hC.k 7 rfl | exact hV.k | exact hV.rows.1 | exact hV.pw.2) rfl rfl rfl (by show cs + 0 ≤ C; omega) (by show ns + 0 ≤ N; omega) (sp_Trial_touch (n := 0) hC ⟨e7 _, by decide⟩) rfl rfl (fun T2 h2 => ?_)
            refine VW.iconst (pc' := 152) d_Trial_allowsInsert_151 rfl (by decide) ?_
            exact VW.iret d_Trial_allowsInsert_152 rfl rfl (by omega) (by omega) (yes (ok c76 c85 c91 c107 c123) T2 h2)
          · try have e123 := bIe c123
            refine VW.iconst (pc' := 127) d_Trial_allowsInsert_126 rfl (by decide) ?_
            exact VW.iret d_Trial_allowsInsert_127 rfl rfl (by omega) (by omega) (by first | exact no 0 rfl (n1 c76) | exact no 0 rfl (n2 c85) | exact no 0 rfl (n3 c91) | exact no 0 rfl (n4 c107) | exact no 0 rfl (n5 c123))
end
