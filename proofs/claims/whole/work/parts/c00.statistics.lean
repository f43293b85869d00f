/-! how many differing values a column holds; the statistics -/
section
variable {K : KT} {P : PT} {J I : IT} {t c : Int}
def clC (I : IT) (t c k : Int) : Int := I 1161 ((t * 8 + k) * 4 + c)
/-- k's value isn't NULL, and none of the first j rows has it -/
def clPre (I : IT) (t c k j : Int) : Prop := clC I t c k ≠ -2147483648 ∧ ∀ i, 0 ≤ i → i < j → clC I t c i ≠ clC I t c k
def clDG (I : IT) (t c k : Int) : Prop := clPre I t c k k
noncomputable def clD (I : IT) (t c : Int) : Int := cntI (clDG I t c) 8
theorem clPre_yes {k j : Int} (h : clPre I t c k j) (h2 : clC I t c j ≠ clC I t c k) (h0 : 0 ≤ j) : bI (clPre I t c k (j + 1)) = 1 := bI1 ⟨h.1, fun i i0 i1 => by
  by_cases eZ : i = j
  · rw [eZ]; exact h2
  · exact h.2 i i0 (by omega)⟩
theorem clPre_no {k j : Int} (h : ¬ clPre I t c k j) : bI (clPre I t c k (j + 1)) = 0 := bI0 (fun z => h ⟨z.1, fun i i0 i1 => z.2 i i0 (by omega)⟩)
theorem clPre_eq {k j : Int} (h2 : clC I t c j = clC I t c k) (h0 : 0 ≤ j) : bI (clPre I t c k (j + 1)) = 0 := bI0 (fun z => z.2 j h0 (by omega) h2)
theorem sp_Planner_countDistinct (hC : ClW K P) (ht : 0 ≤ t ∧ t < 6) (hc : 0 ≤ c ∧ c < 4) : Sp m_Planner_countDistinct false (rmv 2 60) (ex K P J I (.inl (some (vI (clD I t c))))) K P J I [vR (some 1160), vI t, vI c] := by
  refine Sp.ofV (by decide) (Or.inr rfl) rfl ?_
  have loopZ : ∀ (l mZ : Nat), mZ + l = 8 → VW m_Planner_countDistinct false (rmv 2 60) (ex K P J I (.inl (some (vI (clD I t c))))) K P J I 0 0 5 [(0, vR (some 1160)), (1, vI t), (2, vI c), (3, vI (cntI (clDG I t c) mZ)), (4, vI (mZ : Int))] [] := by
    intro l
    induction l with
    | zero =>
      intro mZ hmZ
      have em : mZ = 8 := by omega
      subst em
      refine VW.iload (pc' := 7) d_Planner_countDistinct_5 rfl rfl ?_
      refine VW.bipush (pc' := 9) d_Planner_countDistinct_7 rfl (by decide) ?_
      refine VW.icmp_ge (tgt := 107) (pc' := 12) d_Planner_countDistinct_9 rfl rfl (fun c9 => ?_) (fun c9 => ?_)
      · refine VW.iload_n (pc' := 108) d_Planner_countDistinct_107 rfl rfl ?_
        exact VW.iret d_Planner_countDistinct_108 rfl rfl (Nat.zero_le _) (Nat.zero_le _) ex_rf
      · exfalso; omega
    | succ l ihZ =>
      intro mZ hmZ
      have ih1 := ihZ (mZ + 1) (by omega)
      have em : ((mZ + 1 : Nat) : Int) = (mZ : Int) + 1 := by omega
      rw [em] at ih1
      have rg := cntI_rg (clDG I t c) mZ
      have m8Z : (mZ : Int) < 8 := by omega
      have finZ : ∀ (is w : Int), is = bI (clDG I t c mZ) → VW m_Planner_countDistinct false (rmv 2 60) (ex K P J I (.inl (some (vI (clD I t c))))) K P J I 0 0 93 [(0, vR (some 1160)), (1, vI t), (2, vI c), (3, vI (cntI (clDG I t c) mZ)), (4, vI (mZ : Int)), (6, vI is)] [] := fun is w h => by
        have eZ : cntI (clDG I t c) mZ + is = cntI (clDG I t c) (mZ + 1) := by rw [h]; rfl
        rw [← eZ] at ih1
        clear ihZ eZ
        rcases bI_01 (clDG I t c mZ) with zZ | zZ
        · rw [zZ] at h; subst h
          rw [show cntI (clDG I t c) mZ + 0 = cntI (clDG I t c) mZ by omega] at ih1
          refine VW.iload (pc' := 95) d_Planner_countDistinct_93 rfl rfl ?_
          refine VW.if_eq (tgt := 101) (pc' := 98) d_Planner_countDistinct_95 rfl rfl (fun _ => ?_) (fun c95 => absurd c95 (by decide))
          refine VW.iinc (pc' := 104) d_Planner_countDistinct_101 rfl rfl rfl (by omega) ?_
          refine VW.goto (pc' := 5) d_Planner_countDistinct_104 rfl ?_
          refine VW.pick [0, 1, 2, 3, 4] ?_
          exact ih1
        · rw [zZ] at h; subst h
          refine VW.iload (pc' := 95) d_Planner_countDistinct_93 rfl rfl ?_
          refine VW.if_eq (tgt := 101) (pc' := 98) d_Planner_countDistinct_95 rfl rfl (fun c95 => absurd c95 (by decide)) (fun _ => ?_)
          refine VW.iinc (pc' := 101) d_Planner_countDistinct_98 rfl rfl rfl (by omega) ?_
          refine VW.iinc (pc' := 104) d_Planner_countDistinct_101 rfl rfl rfl (by omega) ?_
          refine VW.goto (pc' := 5) d_Planner_countDistinct_104 rfl ?_
          refine VW.pick [0, 1, 2, 3, 4] ?_
          exact ih1
      have innerZ : ∀ (l2 : Nat) (jZ : Int), jZ + l2 = mZ → 0 ≤ jZ → VW m_Planner_countDistinct false (rmv 2 60) (ex K P J I (.inl (some (vI (clD I t c))))) K P J I 0 0 48 [(0, vR (some 1160)), (1, vI t), (2, vI c), (3, vI (cntI (clDG I t c) mZ)), (4, vI (mZ : Int)), (5, vI (clC I t c mZ)), (6, vI (bI (clPre I t c mZ jZ))), (7, vI jZ)] [] := by
        intro l2
        induction l2 with
        | zero =>
          intro jZ hj h0
          have ej : jZ = mZ := by omega
          subst ej
          have fZ := finZ (bI (clPre I t c mZ mZ)) 0 rfl
          refine VW.iload (pc' := 50) d_Planner_countDistinct_48 rfl rfl ?_
          refine VW.iload (pc' := 52) d_Planner_countDistinct_50 rfl rfl ?_
          refine VW.icmp_ge (tgt := 93) (pc' := 55) d_Planner_countDistinct_52 rfl rfl (fun c52 => ?_) (fun c52 => ?_)
          · refine VW.pick [0, 1, 2, 3, 4, 6] ?_
            exact fZ
          · exfalso; omega
        | succ l2 ih2 =>
          intro jZ hj h0
          have ih3 := ih2 (jZ + 1) (by omega) (by omega)
          have j8Z : jZ < 8 := by omega
          have cj : I 1161 ((t * 8 + jZ) * 4 + c) = clC I t c jZ := rfl
          rcases bI_cases (clPre I t c mZ jZ) with ⟨qZ, zZ⟩ | ⟨qZ, zZ⟩
          · rw [zZ]
            have k1Z : clC I t c jZ ≠ clC I t c mZ → VW m_Planner_countDistinct false (rmv 2 60) (ex K P J I (.inl (some (vI (clD I t c))))) K P J I 0 0 48 [(0, vR (some 1160)), (1, vI t), (2, vI c), (3, vI (cntI (clDG I t c) mZ)), (4, vI (mZ : Int)), (5, vI (clC I t c mZ)), (6, vI 1), (7, vI (jZ + 1))] [] := fun w => by
              rw [clPre_yes qZ w h0] at ih3; exact ih3
            have k0Z : clC I t c jZ = clC I t c mZ → VW m_Planner_countDistinct false (rmv 2 60) (ex K P J I (.inl (some (vI (clD I t c))))) K P J I 0 0 48 [(0, vR (some 1160)), (1, vI t), (2, vI c), (3, vI (cntI (clDG I t c) mZ)), (4, vI (mZ : Int)), (5, vI (clC I t c mZ)), (6, vI 0), (7, vI (jZ + 1))] [] := fun w => by
              rw [clPre_eq w h0] at ih3; exact ih3
            clear ih2 ih3 finZ ihZ ih1
            refine VW.iload (pc' := 50) d_Planner_countDistinct_48 rfl rfl ?_
            refine VW.iload (pc' := 52) d_Planner_countDistinct_50 rfl rfl ?_
            refine VW.icmp_ge (tgt := 93) (pc' := 55) d_Planner_countDistinct_52 rfl rfl (fun c52 => ?_) (fun c52 => ?_)
            · exfalso; omega
            · refine VW.iload (pc' := 57) d_Planner_countDistinct_55 rfl rfl ?_
              refine VW.aload_n (pc' := 58) d_Planner_countDistinct_57 rfl rfl ?_
              refine VW.gP (ci := 6) (T := T6) (N := 1) (k := 0) (k' := 0) (pc' := 61) d_Planner_countDistinct_58 rfl lk_Planner_65 in6 rfl rfl rfl rfl (by first | exact hC.st.2.2 | exact hC.st.1 | exact hC.k 22 rfl) (by first | exact hC.st.2.1 | rfl) ?_
              refine VW.iload_n (pc' := 62) d_Planner_countDistinct_61 rfl rfl ?_
              refine VW.bipush (pc' := 64) d_Planner_countDistinct_62 rfl (by decide) ?_
              refine VW.imul (pc' := 65) d_Planner_countDistinct_64 rfl (by omega) ?_
              refine VW.iload (pc' := 67) d_Planner_countDistinct_65 rfl rfl ?_
              refine VW.iadd (pc' := 68) d_Planner_countDistinct_67 rfl (by omega) ?_
              refine VW.cS (pc' := 71) d_Planner_countDistinct_68 rfl ms_Rows_startOf lk_Planner_68 rfl rfl rfl (Nat.le_refl _) (Nat.le_refl _) (sp_Rows_startOf (by omega)) rfl rfl ?_
              refine VW.iload_n (pc' := 72) d_Planner_countDistinct_71 rfl rfl ?_
              refine VW.iadd (pc' := 73) d_Planner_countDistinct_72 rfl (by omega) ?_
              refine VW.ild (pc' := 74) d_Planner_countDistinct_73 rfl (by first | exact hC.st.2.2 | exact hC.st.1 | exact hC.k 22 rfl) (by omega) (by omega) (cj) ?_
              refine VW.iload (pc' := 76) d_Planner_countDistinct_74 rfl rfl ?_
              refine VW.icmp_eq (tgt := 83) (pc' := 79) d_Planner_countDistinct_76 rfl rfl (fun c76 => ?_) (fun c76 => ?_)
              · refine VW.iconst (pc' := 84) d_Planner_countDistinct_83 rfl (by decide) ?_
                refine VW.iand (pc' := 85) (z := 0) d_Planner_countDistinct_84 rfl (by decide) (by decide) ?_
                refine VW.istore (pc' := 87) d_Planner_countDistinct_85 rfl rfl ?_
                refine VW.iinc (pc' := 90) d_Planner_countDistinct_87 rfl rfl rfl (by omega) ?_
                refine VW.goto (pc' := 48) d_Planner_countDistinct_90 rfl ?_
                refine VW.pick [0, 1, 2, 3, 4, 5, 6, 7] ?_
                first | exact k1Z c76 | exact k0Z c76
              · refine VW.iconst (pc' := 80) d_Planner_countDistinct_79 rfl (by decide) ?_
                refine VW.goto (pc' := 84) d_Planner_countDistinct_80 rfl ?_
                refine VW.iand (pc' := 85) (z := 1) d_Planner_countDistinct_84 rfl (by decide) (by decide) ?_
                refine VW.istore (pc' := 87) d_Planner_countDistinct_85 rfl rfl ?_
                refine VW.iinc (pc' := 90) d_Planner_countDistinct_87 rfl rfl rfl (by omega) ?_
                refine VW.goto (pc' := 48) d_Planner_countDistinct_90 rfl ?_
                refine VW.pick [0, 1, 2, 3, 4, 5, 6, 7] ?_
                first | exact k1Z c76 | exact k0Z c76
          · rw [zZ]
            rw [clPre_no qZ] at ih3
            clear ih2 finZ ihZ ih1
            refine VW.iload (pc' := 50) d_Planner_countDistinct_48 rfl rfl ?_
            refine VW.iload (pc' := 52) d_Planner_countDistinct_50 rfl rfl ?_
            refine VW.icmp_ge (tgt := 93) (pc' := 55) d_Planner_countDistinct_52 rfl rfl (fun c52 => ?_) (fun c52 => ?_)
            · exfalso; omega
            · refine VW.iload (pc' := 57) d_Planner_countDistinct_55 rfl rfl ?_
              refine VW.aload_n (pc' := 58) d_Planner_countDistinct_57 rfl rfl ?_
              refine VW.gP (ci := 6) (T := T6) (N := 1) (k := 0) (k' := 0) (pc' := 61) d_Planner_countDistinct_58 rfl lk_Planner_65 in6 rfl rfl rfl rfl (by first | exact hC.st.2.2 | exact hC.st.1 | exact hC.k 22 rfl) (by first | exact hC.st.2.1 | rfl) ?_
              refine VW.iload_n (pc' := 62) d_Planner_countDistinct_61 rfl rfl ?_
              refine VW.bipush (pc' := 64) d_Planner_countDistinct_62 rfl (by decide) ?_
              refine VW.imul (pc' := 65) d_Planner_countDistinct_64 rfl (by omega) ?_
              refine VW.iload (pc' := 67) d_Planner_countDistinct_65 rfl rfl ?_
              refine VW.iadd (pc' := 68) d_Planner_countDistinct_67 rfl (by omega) ?_
              refine VW.cS (pc' := 71) d_Planner_countDistinct_68 rfl ms_Rows_startOf lk_Planner_68 rfl rfl rfl (Nat.le_refl _) (Nat.le_refl _) (sp_Rows_startOf (by omega)) rfl rfl ?_
              refine VW.iload_n (pc' := 72) d_Planner_countDistinct_71 rfl rfl ?_
              refine VW.iadd (pc' := 73) d_Planner_countDistinct_72 rfl (by omega) ?_
              refine VW.ild (pc' := 74) d_Planner_countDistinct_73 rfl (by first | exact hC.st.2.2 | exact hC.st.1 | exact hC.k 22 rfl) (by omega) (by omega) (cj) ?_
              refine VW.iload (pc' := 76) d_Planner_countDistinct_74 rfl rfl ?_
              refine VW.icmp_eq (tgt := 83) (pc' := 79) d_Planner_countDistinct_76 rfl rfl (fun c76 => ?_) (fun c76 => ?_)
              · refine VW.iconst (pc' := 84) d_Planner_countDistinct_83 rfl (by decide) ?_
                refine VW.iand (pc' := 85) (z := 0) d_Planner_countDistinct_84 rfl (by decide) (by decide) ?_
                refine VW.istore (pc' := 87) d_Planner_countDistinct_85 rfl rfl ?_
                refine VW.iinc (pc' := 90) d_Planner_countDistinct_87 rfl rfl rfl (by omega) ?_
                refine VW.goto (pc' := 48) d_Planner_countDistinct_90 rfl ?_
                refine VW.pick [0, 1, 2, 3, 4, 5, 6, 7] ?_
                exact ih3
              · refine VW.iconst (pc' := 80) d_Planner_countDistinct_79 rfl (by decide) ?_
                refine VW.goto (pc' := 84) d_Planner_countDistinct_80 rfl ?_
                refine VW.iand (pc' := 85) (z := 0) d_Planner_countDistinct_84 rfl (by decide) (by decide) ?_
                refine VW.istore (pc' := 87) d_Planner_countDistinct_85 rfl rfl ?_
                refine VW.iinc (pc' := 90) d_Planner_countDistinct_87 rfl rfl rfl (by omega) ?_
                refine VW.goto (pc' := 48) d_Planner_countDistinct_90 rfl ?_
                refine VW.pick [0, 1, 2, 3, 4, 5, 6, 7] ?_
                exact ih3
      have cm : I 1161 ((t * 8 + (mZ : Int)) * 4 + c) = clC I t c mZ := rfl
      have i1Z : clC I t c mZ ≠ -2147483648 → VW m_Planner_countDistinct false (rmv 2 60) (ex K P J I (.inl (some (vI (clD I t c))))) K P J I 0 0 48 [(0, vR (some 1160)), (1, vI t), (2, vI c), (3, vI (cntI (clDG I t c) mZ)), (4, vI (mZ : Int)), (5, vI (clC I t c mZ)), (6, vI 1), (7, vI 0)] [] := fun w => by
        have := innerZ mZ 0 (by omega) (Int.le_refl _)
        rw [show bI (clPre I t c mZ 0) = 1 from bI1 ⟨w, fun i i0Z i1Z => absurd i1Z (by omega)⟩] at this
        exact this
      have i0Z : clC I t c mZ = -2147483648 → VW m_Planner_countDistinct false (rmv 2 60) (ex K P J I (.inl (some (vI (clD I t c))))) K P J I 0 0 48 [(0, vR (some 1160)), (1, vI t), (2, vI c), (3, vI (cntI (clDG I t c) mZ)), (4, vI (mZ : Int)), (5, vI (clC I t c mZ)), (6, vI 0), (7, vI 0)] [] := fun w => by
        have := innerZ mZ 0 (by omega) (Int.le_refl _)
        rw [show bI (clPre I t c mZ 0) = 0 from bI0 (fun zZ => zZ.1 w)] at this
        exact this
      clear innerZ finZ ihZ ih1
      refine VW.iload (pc' := 7) d_Planner_countDistinct_5 rfl rfl ?_
      refine VW.bipush (pc' := 9) d_Planner_countDistinct_7 rfl (by decide) ?_
      refine VW.icmp_ge (tgt := 107) (pc' := 12) d_Planner_countDistinct_9 rfl rfl (fun c9 => ?_) (fun c9 => ?_)
      · exfalso; omega
      · refine VW.aload_n (pc' := 13) d_Planner_countDistinct_12 rfl rfl ?_
        refine VW.gP (ci := 6) (T := T6) (N := 1) (k := 0) (k' := 0) (pc' := 16) d_Planner_countDistinct_13 rfl lk_Planner_65 in6 rfl rfl rfl rfl (by first | exact hC.st.2.2 | exact hC.st.1 | exact hC.k 22 rfl) (by first | exact hC.st.2.1 | rfl) ?_
        refine VW.iload_n (pc' := 17) d_Planner_countDistinct_16 rfl rfl ?_
        refine VW.bipush (pc' := 19) d_Planner_countDistinct_17 rfl (by decide) ?_
        refine VW.imul (pc' := 20) d_Planner_countDistinct_19 rfl (by omega) ?_
        refine VW.iload (pc' := 22) d_Planner_countDistinct_20 rfl rfl ?_
        refine VW.iadd (pc' := 23) d_Planner_countDistinct_22 rfl (by omega) ?_
        refine VW.cS (pc' := 26) d_Planner_countDistinct_23 rfl ms_Rows_startOf lk_Planner_68 rfl rfl rfl (Nat.le_refl _) (Nat.le_refl _) (sp_Rows_startOf (by omega)) rfl rfl ?_
        refine VW.iload_n (pc' := 27) d_Planner_countDistinct_26 rfl rfl ?_
        refine VW.iadd (pc' := 28) d_Planner_countDistinct_27 rfl (by omega) ?_
        refine VW.ild (pc' := 29) d_Planner_countDistinct_28 rfl (by first | exact hC.st.2.2 | exact hC.st.1 | exact hC.k 22 rfl) (by omega) (by omega) (cm) ?_
        refine VW.istore (pc' := 31) d_Planner_countDistinct_29 rfl rfl ?_
        refine VW.iload (pc' := 33) d_Planner_countDistinct_31 rfl rfl ?_
        refine VW.ldc (pc' := 35) (z := -2147483648) d_Planner_countDistinct_33 rfl lk_Planner_71 (by decide) (by decide) ?_
        refine VW.icmp_eq (tgt := 42) (pc' := 38) d_Planner_countDistinct_35 rfl rfl (fun c35 => ?_) (fun c35 => ?_)
        · refine VW.iconst (pc' := 43) d_Planner_countDistinct_42 rfl (by decide) ?_
          refine VW.istore (pc' := 45) d_Planner_countDistinct_43 rfl rfl ?_
          refine VW.iconst (pc' := 46) d_Planner_countDistinct_45 rfl (by decide) ?_
          refine VW.istore (pc' := 48) d_Planner_countDistinct_46 rfl rfl ?_
          refine VW.pick [0, 1, 2, 3, 4, 5, 6, 7] ?_
          first | exact i1Z c35 | exact i0Z c35
        · refine VW.iconst (pc' := 39) d_Planner_countDistinct_38 rfl (by decide) ?_
          refine VW.goto (pc' := 43) d_Planner_countDistinct_39 rfl ?_
          refine VW.istore (pc' := 45) d_Planner_countDistinct_43 rfl rfl ?_
          refine VW.iconst (pc' := 46) d_Planner_countDistinct_45 rfl (by decide) ?_
          refine VW.istore (pc' := 48) d_Planner_countDistinct_46 rfl rfl ?_
          refine VW.pick [0, 1, 2, 3, 4, 5, 6, 7] ?_
          first | exact i1Z c35 | exact i0Z c35
  have l := loopZ 8 0 rfl
  clear loopZ
  refine VW.iconst (pc' := 1) d_Planner_countDistinct_0 rfl (by decide) ?_
  refine VW.istore_n (pc' := 2) d_Planner_countDistinct_1 rfl rfl ?_
  refine VW.iconst (pc' := 3) d_Planner_countDistinct_2 rfl (by decide) ?_
  refine VW.istore (pc' := 5) d_Planner_countDistinct_3 rfl rfl ?_
  refine VW.nrm ?_
  exact l
end
