section
variable {K : KT} {P : PT} {J I : IT} {Q : PQ}
/-- the row k holds a value that none before holds -/
def mDifG (I : IT) (t c k : Int) : Prop := I 215 (4 * (64 * (6 * 4 + t) + k) + c) ≠ -2147483648 ∧ ∀ j, 0 ≤ j → j < k → I 215 (4 * (64 * (6 * 4 + t) + j) + c) ≠ I 215 (4 * (64 * (6 * 4 + t) + k) + c)
noncomputable def mDif (I : IT) (t c : Int) : Int := cntI (mDifG I t c) (I 214 (24 + t)).toNat
theorem mDif_of {S : IT} {t c : Int} (h1 : ∀ k, S 214 k = I 214 k) (h2 : ∀ k, S 215 k = I 215 k) : mDif S t c = mDif I t c := by
  unfold mDif
  rw [h1]
  congr 1
  funext k
  unfold mDifG
  rw [h2]
  congr 1
  refine forall_congr (fun j => ?_)
  rw [h2]
theorem sp_Model_differing {t c : Int} (hM : MW K P) (hb : MB I) (ht : 0 ≤ t ∧ t < 6) (hc : 0 ≤ c ∧ c < 4) : Sp m_Model_differing false (rmv 1 23) (ex K P J I (.inl (some (vI (mDif I t c))))) K P J I [vR (some 100), vI t, vI c] := by
  refine Sp.ofV (by decide) (Or.inr rfl) rfl ?_
  have r0 := hb.row (24 + t)
  have loop : ∀ (l m : Nat), m + l = I 214 (24 + t) → VW m_Model_differing false (rmv 1 23) (ex K P J I (.inl (some (vI (mDif I t c))))) K P J I 0 0 5 [(0, vR (some 100)), (1, vI t), (2, vI c), (3, vI (cntI (mDifG I t c) m)), (4, vI (m : Int))] [] := by
    intro l
    induction l with
    | zero =>
      intro m hm
      have em : (I 214 (24 + t)).toNat = m := by omega
      unfold mDif
      rw [em]
      refine VW.iload (pc' := 7) d_Model_differing_5 rfl rfl ?_
      refine VW.aload_n (pc' := 8) d_Model_differing_7 rfl rfl ?_
      refine VW.gP (ci := 11) (T := T11) (N := 94) (k := 14) (k' := 14) (pc' := 11) d_Model_differing_8 rfl lk_Model_46 in11 rfl rfl rfl rfl (hM.k rfl) (hM.p (r := some 214) 14 rfl rfl) ?_
      refine VW.bipush (pc' := 13) d_Model_differing_11 rfl (by decide) ?_
      refine VW.iload_n (pc' := 14) d_Model_differing_13 rfl rfl ?_
      refine VW.iadd (pc' := 15) d_Model_differing_14 rfl (by omega) ?_
      refine VW.ild (pc' := 16) d_Model_differing_15 rfl (hM.k rfl) (by omega) (by omega) (by first | assumption | (simp [up2] <;> rfl) | rfl) ?_
      refine VW.icmp_ge (tgt := 113) (pc' := 19) d_Model_differing_16 rfl rfl (fun c16 => ?_) (fun c16 => ?_)
      · refine VW.iload_n (pc' := 114) d_Model_differing_113 rfl rfl ?_
        exact VW.iret d_Model_differing_114 rfl rfl (Nat.zero_le _) (Nat.zero_le _) ex_rf
      · exfalso; omega
    | succ l ih =>
      intro m hm
      have ih1 := ih (m + 1) (by omega)
      have em : ((m + 1 : Nat) : Int) = (m : Int) + 1 := by omega
      rw [em] at ih1
      have rg := cntI_rg (mDifG I t c) m
      have fin : ∀ is : Int, is = bI (mDifG I t c m) → ∀ v z : Int, VW m_Model_differing false (rmv 1 23) (ex K P J I (.inl (some (vI (mDif I t c))))) K P J I 0 0 94 [(0, vR (some 100)), (1, vI t), (2, vI c), (3, vI (cntI (mDifG I t c) m)), (4, vI (m : Int)), (5, vI v), (6, vI is)] [] := fun is h v z0 => by
        have e : cntI (mDifG I t c) m + is = cntI (mDifG I t c) (m + 1) := by rw [h]; rfl
        rcases bI_01 (mDifG I t c m) with z | z
        · rw [z] at h; subst h; exact (by
            rw [← e] at ih1
            clear ih
            refine VW.iload_n (pc' := 95) d_Model_differing_94 rfl rfl ?_
            refine VW.iload (pc' := 97) d_Model_differing_95 rfl rfl ?_
            refine VW.if_eq (tgt := 104) (pc' := 100) d_Model_differing_97 rfl rfl (fun _ => ?_) (fun c97 => absurd c97 (by decide))
            refine VW.iconst (pc' := 105) d_Model_differing_104 rfl (by decide) ?_
            refine VW.iadd (pc' := 106) d_Model_differing_105 rfl (by omega) ?_
            refine VW.istore_n (pc' := 107) d_Model_differing_106 rfl rfl ?_
            refine VW.iinc (pc' := 110) d_Model_differing_107 rfl rfl rfl (by omega) ?_
            refine VW.goto (pc' := 5) d_Model_differing_110 rfl ?_
            refine VW.pick [0, 1, 2, 3, 4] ?_
            exact ih1)
        · rw [z] at h; subst h; exact (by
            rw [← e] at ih1
            clear ih
            refine VW.iload_n (pc' := 95) d_Model_differing_94 rfl rfl ?_
            refine VW.iload (pc' := 97) d_Model_differing_95 rfl rfl ?_
            refine VW.if_eq (tgt := 104) (pc' := 100) d_Model_differing_97 rfl rfl (fun c97 => absurd c97 (by decide)) (fun _ => ?_)
            refine VW.iconst (pc' := 101) d_Model_differing_100 rfl (by decide) ?_
            refine VW.goto (pc' := 105) d_Model_differing_101 rfl ?_
            refine VW.iadd (pc' := 106) d_Model_differing_105 rfl (by omega) ?_
            refine VW.istore_n (pc' := 107) d_Model_differing_106 rfl rfl ?_
            refine VW.iinc (pc' := 110) d_Model_differing_107 rfl rfl rfl (by omega) ?_
            refine VW.goto (pc' := 5) d_Model_differing_110 rfl ?_
            refine VW.pick [0, 1, 2, 3, 4] ?_
            exact ih1)
      clear ih ih1
      have inner : ∀ (l2 : Nat) (j is w : Int), j + l2 = m → 0 ≤ j → w = bI (I 215 (4 * (64 * (6 * 4 + t) + (m : Int)) + c) ≠ -2147483648) → ((w = 0 ∧ is = 0) ∨ (w = 1 ∧ andI (fun j => I 215 (4 * (64 * (6 * 4 + t) + j) + c) ≠ I 215 (4 * (64 * (6 * 4 + t) + (m : Int)) + c)) 0 j is)) → VW m_Model_differing false (rmv 1 23) (ex K P J I (.inl (some (vI (mDif I t c))))) K P J I 0 0 51 [(0, vR (some 100)), (1, vI t), (2, vI c), (3, vI (cntI (mDifG I t c) m)), (4, vI (m : Int)), (5, vI (I 215 (4 * (64 * (6 * 4 + t) + (m : Int)) + c))), (6, vI is), (7, vI j)] [] := by
        intro l2
        induction l2 with
        | zero =>
          intro j is w hj h0 hw hi
          have ej : j = m := by omega
          subst ej
          have f := fin is (by
            rw [andI_and hi, hw]
            refine bIc ⟨fun z => ⟨?_, z.2⟩, fun z => ⟨bI1 z.1, z.2⟩⟩
            rcases bI_cases (I 215 (4 * (64 * (6 * 4 + t) + (m : Int)) + c) ≠ -2147483648) with ⟨q1, q2⟩ | ⟨q1, q2⟩
            · exact q1
            · exact absurd z.1 (by omega)) (I 215 (4 * (64 * (6 * 4 + t) + (m : Int)) + c)) 0
          clear fin
          refine VW.iload (pc' := 53) d_Model_differing_51 rfl rfl ?_
          refine VW.iload (pc' := 55) d_Model_differing_53 rfl rfl ?_
          refine VW.icmp_ge (tgt := 94) (pc' := 58) d_Model_differing_55 rfl rfl (fun c55 => ?_) (fun c55 => ?_)
          · refine VW.pick [0, 1, 2, 3, 4, 5, 6] ?_
            exact f
          · exfalso; omega
        | succ l2 ihi =>
          intro j is w hj h0 hw hi
          have k0 := fun (z : is = 0) => ihi (j + 1) 0 w (by omega) (by omega) hw (by
            rcases hi with ⟨s1, s2⟩ | ⟨s1, s2⟩
            · exact Or.inl ⟨s1, rfl⟩
            · exact Or.inr ⟨s1, s2.keep z⟩)
          have k1 := fun (z : is ≠ 0) (y : I 215 (4 * (64 * (6 * 4 + t) + j) + c) ≠ I 215 (4 * (64 * (6 * 4 + t) + (m : Int)) + c)) => ihi (j + 1) 1 w (by omega) (by omega) hw (by
            rcases hi with ⟨s1, s2⟩ | ⟨s1, s2⟩
            · exact absurd s2 z
            · exact Or.inr ⟨s1, s2.yes z y⟩)
          have k2 := fun (z : is ≠ 0) (y : I 215 (4 * (64 * (6 * 4 + t) + j) + c) = I 215 (4 * (64 * (6 * 4 + t) + (m : Int)) + c)) => ihi (j + 1) 0 w (by omega) (by omega) hw (by
            rcases hi with ⟨s1, s2⟩ | ⟨s1, s2⟩
            · exact absurd s2 z
            · exact Or.inr ⟨s1, andI.no h0 (fun q => q y)⟩)
          clear ihi fin hi
          refine VW.iload (pc' := 53) d_Model_differing_51 rfl rfl ?_
          refine VW.iload (pc' := 55) d_Model_differing_53 rfl rfl ?_
          refine VW.icmp_ge (tgt := 94) (pc' := 58) d_Model_differing_55 rfl rfl (fun c55 => ?_) (fun c55 => ?_)
          · exfalso; omega
          · refine VW.iload (pc' := 60) d_Model_differing_58 rfl rfl ?_
            refine VW.if_eq (tgt := 85) (pc' := 63) d_Model_differing_60 rfl rfl (fun c60 => ?_) (fun c60 => ?_)
            · try have e60 := bIe c60
              refine VW.iconst (pc' := 86) d_Model_differing_85 rfl (by decide) ?_
              refine VW.istore (pc' := 88) d_Model_differing_86 rfl rfl ?_
              refine VW.iinc (pc' := 91) d_Model_differing_88 rfl rfl rfl (by omega) ?_
              refine VW.goto (pc' := 51) d_Model_differing_91 rfl ?_
              refine VW.nrm ?_
              first | exact k0 c60 | exact k1 c60 c78 | exact k2 c60 c78
            · try have e60 := bIn c60
              refine VW.aload_n (pc' := 64) d_Model_differing_63 rfl rfl ?_
              refine VW.gP (ci := 11) (T := T11) (N := 94) (k := 15) (k' := 15) (pc' := 67) d_Model_differing_64 rfl lk_Model_49 in11 rfl rfl rfl rfl (hM.k rfl) (hM.p (r := some 215) 15 rfl rfl) ?_
              refine VW.iconst (pc' := 68) d_Model_differing_67 rfl (by decide) ?_
              refine VW.iload_n (pc' := 69) d_Model_differing_68 rfl rfl ?_
              refine VW.iload (pc' := 71) d_Model_differing_69 rfl rfl ?_
              refine VW.iload_n (pc' := 72) d_Model_differing_71 rfl rfl ?_
              refine VW.cS (pc' := 75) d_Model_differing_72 rfl ms_Model_cell lk_Model_273 rfl rfl rfl (Nat.le_refl _) (Nat.le_refl _) (sp_Model_cell (by omega) (by omega) (by omega) (by omega)) rfl rfl ?_
              refine VW.ild (pc' := 76) d_Model_differing_75 rfl (hM.k rfl) (by omega) (by omega) (rfl) ?_
              refine VW.iload (pc' := 78) d_Model_differing_76 rfl rfl ?_
              refine VW.icmp_eq (tgt := 85) (pc' := 81) d_Model_differing_78 rfl rfl (fun c78 => ?_) (fun c78 => ?_)
              · refine VW.iconst (pc' := 86) d_Model_differing_85 rfl (by decide) ?_
                refine VW.istore (pc' := 88) d_Model_differing_86 rfl rfl ?_
                refine VW.iinc (pc' := 91) d_Model_differing_88 rfl rfl rfl (by omega) ?_
                refine VW.goto (pc' := 51) d_Model_differing_91 rfl ?_
                refine VW.nrm ?_
                first | exact k0 c60 | exact k1 c60 c78 | exact k2 c60 c78
              · refine VW.iconst (pc' := 82) d_Model_differing_81 rfl (by decide) ?_
                refine VW.goto (pc' := 86) d_Model_differing_82 rfl ?_
                refine VW.istore (pc' := 88) d_Model_differing_86 rfl rfl ?_
                refine VW.iinc (pc' := 91) d_Model_differing_88 rfl rfl rfl (by omega) ?_
                refine VW.goto (pc' := 51) d_Model_differing_91 rfl ?_
                refine VW.nrm ?_
                first | exact k0 c60 | exact k1 c60 c78 | exact k2 c60 c78
      have i1 := fun (z : I 215 (4 * (64 * (6 * 4 + t) + (m : Int)) + c) ≠ -2147483648) => inner m 0 1 1 (by omega) (by omega) (b1I z) (Or.inr ⟨rfl, andI.z⟩)
      have i0 := fun (z : I 215 (4 * (64 * (6 * 4 + t) + (m : Int)) + c) = -2147483648) => inner m 0 0 0 (by omega) (by omega) (b0I (fun y => y z)) (Or.inl ⟨rfl, rfl⟩)
      clear inner fin
      refine VW.iload (pc' := 7) d_Model_differing_5 rfl rfl ?_
      refine VW.aload_n (pc' := 8) d_Model_differing_7 rfl rfl ?_
      refine VW.gP (ci := 11) (T := T11) (N := 94) (k := 14) (k' := 14) (pc' := 11) d_Model_differing_8 rfl lk_Model_46 in11 rfl rfl rfl rfl (hM.k rfl) (hM.p (r := some 214) 14 rfl rfl) ?_
      refine VW.bipush (pc' := 13) d_Model_differing_11 rfl (by decide) ?_
      refine VW.iload_n (pc' := 14) d_Model_differing_13 rfl rfl ?_
      refine VW.iadd (pc' := 15) d_Model_differing_14 rfl (by omega) ?_
      refine VW.ild (pc' := 16) d_Model_differing_15 rfl (hM.k rfl) (by omega) (by omega) (rfl) ?_
      refine VW.icmp_ge (tgt := 113) (pc' := 19) d_Model_differing_16 rfl rfl (fun c16 => ?_) (fun c16 => ?_)
      · exfalso; omega
      · refine VW.aload_n (pc' := 20) d_Model_differing_19 rfl rfl ?_
        refine VW.gP (ci := 11) (T := T11) (N := 94) (k := 15) (k' := 15) (pc' := 23) d_Model_differing_20 rfl lk_Model_49 in11 rfl rfl rfl rfl (hM.k rfl) (hM.p (r := some 215) 15 rfl rfl) ?_
        refine VW.iconst (pc' := 24) d_Model_differing_23 rfl (by decide) ?_
        refine VW.iload_n (pc' := 25) d_Model_differing_24 rfl rfl ?_
        refine VW.iload (pc' := 27) d_Model_differing_25 rfl rfl ?_
        refine VW.iload_n (pc' := 28) d_Model_differing_27 rfl rfl ?_
        refine VW.cS (pc' := 31) d_Model_differing_28 rfl ms_Model_cell lk_Model_273 rfl rfl rfl (Nat.le_refl _) (Nat.le_refl _) (sp_Model_cell (by omega) (by omega) (by omega) (by omega)) rfl rfl ?_
        refine VW.ild (pc' := 32) d_Model_differing_31 rfl (hM.k rfl) (by omega) (by omega) (rfl) ?_
        refine VW.istore (pc' := 34) d_Model_differing_32 rfl rfl ?_
        refine VW.iload (pc' := 36) d_Model_differing_34 rfl rfl ?_
        refine VW.ldc (pc' := 38) (z := -2147483648) d_Model_differing_36 rfl lk_Model_246 (by decide) (by decide) ?_
        refine VW.icmp_eq (tgt := 45) (pc' := 41) d_Model_differing_38 rfl rfl (fun c38 => ?_) (fun c38 => ?_)
        · refine VW.iconst (pc' := 46) d_Model_differing_45 rfl (by decide) ?_
          refine VW.istore (pc' := 48) d_Model_differing_46 rfl rfl ?_
          refine VW.iconst (pc' := 49) d_Model_differing_48 rfl (by decide) ?_
          refine VW.istore (pc' := 51) d_Model_differing_49 rfl rfl ?_
          refine VW.nrm ?_
          first | exact i1 c38 | exact i0 c38
        · refine VW.iconst (pc' := 42) d_Model_differing_41 rfl (by decide) ?_
          refine VW.goto (pc' := 46) d_Model_differing_42 rfl ?_
          refine VW.istore (pc' := 48) d_Model_differing_46 rfl rfl ?_
          refine VW.iconst (pc' := 49) d_Model_differing_48 rfl (by decide) ?_
          refine VW.istore (pc' := 51) d_Model_differing_49 rfl rfl ?_
          refine VW.nrm ?_
          first | exact i1 c38 | exact i0 c38
  have l := loop (I 214 (24 + t)).toNat 0 (by omega)
  clear loop
  refine VW.iconst (pc' := 1) d_Model_differing_0 rfl (by decide) ?_
  refine VW.istore_n (pc' := 2) d_Model_differing_1 rfl rfl ?_
  refine VW.iconst (pc' := 3) d_Model_differing_2 rfl (by decide) ?_
  refine VW.istore (pc' := 5) d_Model_differing_3 rfl rfl ?_
  refine VW.nrm ?_
  exact l
noncomputable def mAnC (I S : IT) (t : Int) : Nat → IT
  | 0 => S
  | n + 1 => up2 (mAnC I S t n) 292 (4 * t + n) (mDif I t n)
noncomputable def mAnT (I S : IT) : Nat → IT
  | 0 => S
  | n + 1 => mAnC I (up2 (mAnT I S n) 291 n (I 214 (24 + n))) n (I 201 n).toNat
theorem mAnC_o {S : IT} {t : Int} (n : Nat) : ∀ (o : Nat) (k : Int), o ≠ 292 → mAnC I S t n o k = S o k := by
  induction n with
  | zero => intro o k h; rfl
  | succ n ih => intro o k h; exact (up2_o _ _ _ _ h).trans (ih o k h)
theorem mAnT_o {S : IT} (n : Nat) : ∀ (o : Nat) (k : Int), o ≠ 292 → o ≠ 291 → mAnT I S n o k = S o k := by
  induction n with
  | zero => intro o k h h2; rfl
  | succ n ih => intro o k h h2; exact (mAnC_o _ o k h).trans ((up2_o _ _ _ _ h2).trans (ih o k h h2))
noncomputable def mAn0 (I : IT) : IT := filI (up2 I 100 93 0) 263 0 20 0
theorem sp_Model_analyze (hM : MW K P) (hb : MB I) : Sp m_Model_analyze false (rmv 2 50) (ex K P J (mAnT I (mAn0 I) (I 100 0).toNat) (.inl (some (vI (cntI (fun k => I 263 k ≠ 0) 20))))) K P J I [vR (some 100)] := by
  refine Sp.ofV (by decide) (Or.inr rfl) rfl ?_
  have b0 := hb.tab
  have loopT : ∀ (l m : Nat) (n3 : Int), m + l = I 100 0 → VW m_Model_analyze false (rmv 2 50) (ex K P J (mAnT I (mAn0 I) (I 100 0).toNat) (.inl (some (vI (cntI (fun k => I 263 k ≠ 0) 20))))) K P J (mAnT I (mAn0 I) m) 0 0 44 [(0, vR (some 100)), (1, vI (cntI (fun k => I 263 k ≠ 0) 20)), (2, vI (m : Int))] [] := by
    intro l
    have fr0 : ∀ (o : Nat) (k : Int), o ≠ 100 → o ≠ 263 → mAn0 I o k = I o k := fun o k h1 h2 => (filI_fr h2).trans (up2_o _ _ _ _ h1)
    have fr1 : mAn0 I 100 0 = I 100 0 ∧ mAn0 I 100 8 = I 100 8 ∧ mAn0 I 100 19 = I 100 19 := ⟨(filI_fr (by decide)).trans (up2_k _ _ _ _ (by decide)), (filI_fr (by decide)).trans (up2_k _ _ _ _ (by decide)), (filI_fr (by decide)).trans (up2_k _ _ _ _ (by decide))⟩
    induction l with
    | zero =>
      intro m n3 hm
      have em : (I 100 0).toNat = m := by omega
      have g0 : mAnT I (mAn0 I) m 100 0 = I 100 0 := (mAnT_o m 100 0 (by decide) (by decide)).trans fr1.1
      rw [em]
      refine VW.iload_n (pc' := 45) d_Model_analyze_44 rfl rfl ?_
      refine VW.aload_n (pc' := 46) d_Model_analyze_45 rfl rfl ?_
      refine VW.gI (ci := 11) (T := T11) (N := 94) (k := 0) (k' := 0) (pc' := 49) d_Model_analyze_46 rfl lk_Model_239 in11 rfl rfl rfl rfl (hM.k rfl) (by first | exact g0 | rfl) ?_
      refine VW.icmp_ge (tgt := 107) (pc' := 52) d_Model_analyze_49 rfl rfl (fun c49 => ?_) (fun c49 => ?_)
      · refine VW.iload_n (pc' := 108) d_Model_analyze_107 rfl rfl ?_
        exact VW.iret d_Model_analyze_108 rfl rfl (Nat.zero_le _) (Nat.zero_le _) ex_rf
      · exfalso; omega
    | succ l ih =>
      intro m n3 hm
      have ih1 := ih (m + 1) 0 (by omega)
      have em : ((m + 1 : Nat) : Int) = (m : Int) + 1 := by omega
      rw [em] at ih1
      have c0 := hb.col m
      have g0 : mAnT I (mAn0 I) m 100 0 = I 100 0 := (mAnT_o m 100 0 (by decide) (by decide)).trans fr1.1
      have g214 : mAnT I (mAn0 I) m 214 (24 + m) = I 214 (24 + m) := (mAnT_o m 214 _ (by decide) (by decide)).trans (fr0 _ _ (by decide) (by decide))
      have cols : ∀ (l2 j : Nat), j + l2 = I 201 m → VW m_Model_analyze false (rmv 2 50) (ex K P J (mAnT I (mAn0 I) (I 100 0).toNat) (.inl (some (vI (cntI (fun k => I 263 k ≠ 0) 20))))) K P J (mAnC I (up2 (mAnT I (mAn0 I) m) 291 m (I 214 (24 + m))) m j) 0 0 69 [(0, vR (some 100)), (1, vI (cntI (fun k => I 263 k ≠ 0) 20)), (2, vI (m : Int)), (3, vI (j : Int))] [] := by
        intro l2
        have fr : ∀ (j : Nat) (o : Nat) (k : Int), o ≠ 100 → o ≠ 263 → o ≠ 291 → o ≠ 292 → mAnC I (up2 (mAnT I (mAn0 I) m) 291 m (I 214 (24 + m))) m j o k = I o k := fun j o k h1 h2 h3 h4 => (mAnC_o j o k h4).trans ((up2_o _ _ _ _ h3).trans ((mAnT_o m o k h4 h3).trans (fr0 o k h1 h2)))
        have fq : ∀ (j : Nat) (k : Int), mAnC I (up2 (mAnT I (mAn0 I) m) 291 m (I 214 (24 + m))) m j 100 k = mAn0 I 100 k := fun j k => (mAnC_o j 100 k (by decide)).trans ((up2_o _ _ _ _ (by decide)).trans (mAnT_o m 100 k (by decide) (by decide)))
        induction l2 with
        | zero =>
          intro j hj
          have ej : (I 201 m).toNat = j := by omega
          have g201 := fr j 201 m (by decide) (by decide) (by decide) (by decide)
          have e : mAnT I (mAn0 I) (m + 1) = mAnC I (up2 (mAnT I (mAn0 I) m) 291 m (I 214 (24 + m))) m j := by rw [← ej]; rfl
          rw [e] at ih1
          clear ih
          refine VW.iload_n (pc' := 70) d_Model_analyze_69 rfl rfl ?_
          refine VW.aload_n (pc' := 71) d_Model_analyze_70 rfl rfl ?_
          refine VW.gP (ci := 11) (T := T11) (N := 94) (k := 1) (k' := 1) (pc' := 74) d_Model_analyze_71 rfl lk_Model_7 in11 rfl rfl rfl rfl (hM.k rfl) (hM.p (r := some 201) 1 rfl rfl) ?_
          refine VW.iload_n (pc' := 75) d_Model_analyze_74 rfl rfl ?_
          refine VW.ild (pc' := 76) d_Model_analyze_75 rfl (hM.k rfl) (by omega) (by omega) (by first | exact g201 | rfl) ?_
          refine VW.icmp_ge (tgt := 101) (pc' := 79) d_Model_analyze_76 rfl rfl (fun c76 => ?_) (fun c76 => ?_)
          · refine VW.iinc (pc' := 104) d_Model_analyze_101 rfl rfl rfl (by omega) ?_
            refine VW.goto (pc' := 44) d_Model_analyze_104 rfl ?_
            refine VW.pick [0, 1, 2] ?_
            exact ih1
          · exfalso; omega
        | succ l2 ih2 =>
          intro j hj
          have nx := ih2 (j + 1) (by omega)
          have ej : ((j + 1 : Nat) : Int) = (j : Int) + 1 := by omega
          rw [ej] at nx
          have g201 := fr j 201 m (by decide) (by decide) (by decide) (by decide)
          have hbS : MB (mAnC I (up2 (mAnT I (mAn0 I) m) 291 m (I 214 (24 + m))) m j) := hb.of ((fq j 0).trans fr1.1) ((fq j 8).trans fr1.2.1) ((fq j 19).trans fr1.2.2) (fun k => fr j 201 k (by decide) (by decide) (by decide) (by decide)) (fun k => fr j 202 k (by decide) (by decide) (by decide) (by decide)) (fun k => fr j 206 k (by decide) (by decide) (by decide) (by decide)) (fun k => fr j 211 k (by decide) (by decide) (by decide) (by decide)) (fun k => by rw [fr j 214 k (by decide) (by decide) (by decide) (by decide)]; exact hb.row k) (fun k => fr j 223 k (by decide) (by decide) (by decide) (by decide)) (fun k => by rw [fr j 236 k (by decide) (by decide) (by decide) (by decide)]; exact hb.who k)
          have df := sp_Model_differing (K := K) (P := P) (J := J) (I := mAnC I (up2 (mAnT I (mAn0 I) m) 291 m (I 214 (24 + m))) m j) (t := m) (c := j) hM hbS (by omega) (by omega)
          rw [mDif_of (I := I) (fun k => fr j 214 k (by decide) (by decide) (by decide) (by decide)) (fun k => fr j 215 k (by decide) (by decide) (by decide) (by decide))] at df
          clear ih2 ih ih1
          refine VW.iload_n (pc' := 70) d_Model_analyze_69 rfl rfl ?_
          refine VW.aload_n (pc' := 71) d_Model_analyze_70 rfl rfl ?_
          refine VW.gP (ci := 11) (T := T11) (N := 94) (k := 1) (k' := 1) (pc' := 74) d_Model_analyze_71 rfl lk_Model_7 in11 rfl rfl rfl rfl (hM.k rfl) (hM.p (r := some 201) 1 rfl rfl) ?_
          refine VW.iload_n (pc' := 75) d_Model_analyze_74 rfl rfl ?_
          refine VW.ild (pc' := 76) d_Model_analyze_75 rfl (hM.k rfl) (by omega) (by omega) (by first | exact g201 | rfl) ?_
          refine VW.icmp_ge (tgt := 101) (pc' := 79) d_Model_analyze_76 rfl rfl (fun c76 => ?_) (fun c76 => ?_)
          · exfalso; omega
          · refine VW.aload_n (pc' := 80) d_Model_analyze_79 rfl rfl ?_
            refine VW.gP (ci := 11) (T := T11) (N := 94) (k := 92) (k' := 92) (pc' := 83) d_Model_analyze_80 rfl lk_Model_228 in11 rfl rfl rfl rfl (hM.k rfl) (hM.p (r := some 292) 92 rfl rfl) ?_
            refine VW.iconst (pc' := 84) d_Model_analyze_83 rfl (by decide) ?_
            refine VW.iload_n (pc' := 85) d_Model_analyze_84 rfl rfl ?_
            refine VW.imul (pc' := 86) d_Model_analyze_85 rfl (by omega) ?_
            refine VW.iload_n (pc' := 87) d_Model_analyze_86 rfl rfl ?_
            refine VW.iadd (pc' := 88) d_Model_analyze_87 rfl (by omega) ?_
            refine VW.aload_n (pc' := 89) d_Model_analyze_88 rfl rfl ?_
            refine VW.iload_n (pc' := 90) d_Model_analyze_89 rfl rfl ?_
            refine VW.iload_n (pc' := 91) d_Model_analyze_90 rfl rfl ?_
            refine VW.cV (ci := 11) (T := T11) (N := 94) (pc' := 94) d_Model_analyze_91 rfl mv_Model_differing lk_Model_501 rfl (hM.k rfl) rfl rfl rfl (Nat.le_refl _) (Nat.le_refl _) (df) rfl rfl ?_
            refine VW.iast (pc' := 95) d_Model_analyze_94 rfl (hM.k rfl) (by omega) (by omega) ?_
            refine VW.iinc (pc' := 98) d_Model_analyze_95 rfl rfl rfl (by omega) ?_
            refine VW.goto (pc' := 69) d_Model_analyze_98 rfl ?_
            refine VW.nrm ?_
            exact nx
      have cc := cols (I 201 m).toNat 0 (by omega)
      clear cols ih ih1
      refine VW.iload_n (pc' := 45) d_Model_analyze_44 rfl rfl ?_
      refine VW.aload_n (pc' := 46) d_Model_analyze_45 rfl rfl ?_
      refine VW.gI (ci := 11) (T := T11) (N := 94) (k := 0) (k' := 0) (pc' := 49) d_Model_analyze_46 rfl lk_Model_239 in11 rfl rfl rfl rfl (hM.k rfl) (by first | exact g0 | exact g214 | rfl) ?_
      refine VW.icmp_ge (tgt := 107) (pc' := 52) d_Model_analyze_49 rfl rfl (fun c49 => ?_) (fun c49 => ?_)
      · exfalso; omega
      · refine VW.aload_n (pc' := 53) d_Model_analyze_52 rfl rfl ?_
        refine VW.gP (ci := 11) (T := T11) (N := 94) (k := 91) (k' := 91) (pc' := 56) d_Model_analyze_53 rfl lk_Model_225 in11 rfl rfl rfl rfl (hM.k rfl) (hM.p (r := some 291) 91 rfl rfl) ?_
        refine VW.iload_n (pc' := 57) d_Model_analyze_56 rfl rfl ?_
        refine VW.aload_n (pc' := 58) d_Model_analyze_57 rfl rfl ?_
        refine VW.gP (ci := 11) (T := T11) (N := 94) (k := 14) (k' := 14) (pc' := 61) d_Model_analyze_58 rfl lk_Model_46 in11 rfl rfl rfl rfl (hM.k rfl) (hM.p (r := some 214) 14 rfl rfl) ?_
        refine VW.bipush (pc' := 63) d_Model_analyze_61 rfl (by decide) ?_
        refine VW.iload_n (pc' := 64) d_Model_analyze_63 rfl rfl ?_
        refine VW.iadd (pc' := 65) d_Model_analyze_64 rfl (by omega) ?_
        refine VW.ild (pc' := 66) d_Model_analyze_65 rfl (hM.k rfl) (by omega) (by omega) (by first | exact g0 | exact g214 | rfl) ?_
        refine VW.iast (pc' := 67) d_Model_analyze_66 rfl (hM.k rfl) (by omega) (by omega) ?_
        refine VW.iconst (pc' := 68) d_Model_analyze_67 rfl (by decide) ?_
        refine VW.istore_n (pc' := 69) d_Model_analyze_68 rfl rfl ?_
        refine VW.nrm ?_
        exact cc
  have lT := loopT (I 100 0).toNat 0 0 (by omega)
  clear loopT
  have loopC : ∀ (l m : Nat), m + l = 20 → VW m_Model_analyze false (rmv 2 50) (ex K P J (mAnT I (mAn0 I) (I 100 0).toNat) (.inl (some (vI (cntI (fun k => I 263 k ≠ 0) 20))))) K P J (up2 I 100 93 0) 0 0 9 [(0, vR (some 100)), (1, vI (cntI (fun k => I 263 k ≠ 0) m)), (2, vI (m : Int))] [] := by
    intro l
    induction l with
    | zero =>
      intro m hm
      have em : m = 20 := by omega
      subst em
      refine VW.iload_n (pc' := 10) d_Model_analyze_9 rfl rfl ?_
      refine VW.bipush (pc' := 12) d_Model_analyze_10 rfl (by decide) ?_
      refine VW.icmp_ge (tgt := 38) (pc' := 15) d_Model_analyze_12 rfl rfl (fun c12 => ?_) (fun c12 => ?_)
      · refine VW.aload_n (pc' := 39) d_Model_analyze_38 rfl rfl ?_
        refine VW.cV (ci := 11) (T := T11) (N := 94) (pc' := 42) d_Model_analyze_39 rfl mv_Model_throwsPlans lk_Model_257 rfl (hM.k rfl) rfl rfl rfl (Nat.le_refl _) (Nat.le_refl _) (sp_Model_throwsPlans hM) rfl rfl ?_
        refine VW.iconst (pc' := 43) d_Model_analyze_42 rfl (by decide) ?_
        refine VW.istore_n (pc' := 44) d_Model_analyze_43 rfl rfl ?_
        refine VW.nrm ?_
        exact lT
      · exfalso; omega
    | succ l ih =>
      intro m hm
      have ih1 := ih (m + 1) (by omega)
      have em : ((m + 1 : Nat) : Int) = (m : Int) + 1 := by omega
      rw [em] at ih1
      have rg := cntI_rg (fun k => I 263 k ≠ 0) m
      clear ih lT
      refine VW.iload_n (pc' := 10) d_Model_analyze_9 rfl rfl ?_
      refine VW.bipush (pc' := 12) d_Model_analyze_10 rfl (by decide) ?_
      refine VW.icmp_ge (tgt := 38) (pc' := 15) d_Model_analyze_12 rfl rfl (fun c12 => ?_) (fun c12 => ?_)
      · exfalso; omega
      · refine VW.iload_n (pc' := 16) d_Model_analyze_15 rfl rfl ?_
        refine VW.aload_n (pc' := 17) d_Model_analyze_16 rfl rfl ?_
        refine VW.gP (ci := 11) (T := T11) (N := 94) (k := 63) (k' := 63) (pc' := 20) d_Model_analyze_17 rfl lk_Model_162 in11 rfl rfl rfl rfl (hM.k rfl) (hM.p (r := some 263) 63 rfl rfl) ?_
        refine VW.iload_n (pc' := 21) d_Model_analyze_20 rfl rfl ?_
        refine VW.zld (pc' := 22) d_Model_analyze_21 rfl (hM.k rfl) (by omega) (by omega) (by first | exact up2_o _ _ _ _ (by decide) | rfl) ?_
        refine VW.if_eq (tgt := 29) (pc' := 25) d_Model_analyze_22 rfl rfl (fun c22 => ?_) (fun c22 => ?_)
        · try have e22 := bIe c22
          refine VW.iconst (pc' := 30) d_Model_analyze_29 rfl (by decide) ?_
          refine VW.iadd (pc' := 31) d_Model_analyze_30 rfl (by omega) ?_
          refine VW.istore_n (pc' := 32) d_Model_analyze_31 rfl rfl ?_
          refine VW.iinc (pc' := 35) d_Model_analyze_32 rfl rfl rfl (by omega) ?_
          refine VW.goto (pc' := 9) d_Model_analyze_35 rfl ?_
          refine VW.nrm ?_
          first | (rw [← cntI_yes (g := fun k => I 263 k ≠ 0) c22] at ih1; exact ih1) | (rw [← cntI_no (g := fun k => I 263 k ≠ 0) (fun z => z c22)] at ih1; exact ih1)
        · try have e22 := bIn c22
          refine VW.iconst (pc' := 26) d_Model_analyze_25 rfl (by decide) ?_
          refine VW.goto (pc' := 30) d_Model_analyze_26 rfl ?_
          refine VW.iadd (pc' := 31) d_Model_analyze_30 rfl (by omega) ?_
          refine VW.istore_n (pc' := 32) d_Model_analyze_31 rfl rfl ?_
          refine VW.iinc (pc' := 35) d_Model_analyze_32 rfl rfl rfl (by omega) ?_
          refine VW.goto (pc' := 9) d_Model_analyze_35 rfl ?_
          refine VW.nrm ?_
          first | (rw [← cntI_yes (g := fun k => I 263 k ≠ 0) c22] at ih1; exact ih1) | (rw [← cntI_no (g := fun k => I 263 k ≠ 0) (fun z => z c22)] at ih1; exact ih1)
  have l := loopC 20 0 rfl
  clear loopC lT
  refine VW.aload_n (pc' := 1) d_Model_analyze_0 rfl rfl ?_
  refine VW.iconst (pc' := 2) d_Model_analyze_1 rfl (by decide) ?_
  refine VW.pI (ci := 11) (T := T11) (N := 94) (k := 93) (k' := 93) (ty := ty11) (pc' := 5) d_Model_analyze_2 rfl lk_Model_231 in11 tk11 nm11 rfl rfl rfl rfl rfl rfl (hM.k rfl) ?_
  refine VW.iconst (pc' := 6) d_Model_analyze_5 rfl (by decide) ?_
  refine VW.istore_n (pc' := 7) d_Model_analyze_6 rfl rfl ?_
  refine VW.iconst (pc' := 8) d_Model_analyze_7 rfl (by decide) ?_
  refine VW.istore_n (pc' := 9) d_Model_analyze_8 rfl rfl ?_
  refine VW.nrm ?_
  exact l
end
