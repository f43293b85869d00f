/-! the statistics are taken -/
section
variable {K : KT} {P : PT} {J I : IT} {t c : Int}
noncomputable def ksC (I S : IT) (t : Int) : Nat → IT
  | 0 => S
  | n + 1 => up2 (ksC I S t n) 1386 (t * 4 + n) (clD I t n)
noncomputable def ksT (I S : IT) : Nat → IT
  | 0 => S
  | n + 1 => ksC I (up2 (ksT I S n) 1385 n (rwCnt I 1161 n 8)) n (I 1034 n).toNat
theorem ksC_o {S : IT} {t : Int} {o : Nat} (h : o ≠ 1386) : ∀ n, ksC I S t n o = S o := by
  intro n
  induction n with
  | zero => rfl
  | succ n ihZ => funext z; exact (up2_o _ _ _ _ h).trans (congrFun ihZ z)
theorem ksT_o {S : IT} {o : Nat} (h : o ≠ 1386) (h2 : o ≠ 1385) : ∀ n, ksT I S n o = S o := by
  intro n
  induction n with
  | zero => rfl
  | succ n ihZ => exact (ksC_o h _).trans (funext (fun z => (up2_o _ _ _ _ h2).trans (congrFun ihZ z)))
theorem clD_of {I' : IT} (h : I' 1161 = I 1161) : clD I' t c = clD I t c := by
  unfold clD clDG clPre clC
  rw [h]
theorem rwCnt_at {I' : IT} (h : I' 1161 = I 1161) : rwCnt I' 1161 t 8 = rwCnt I 1161 t 8 := by
  unfold rwCnt
  rw [h]
theorem sp_Planner_takeStatistics (hC : ClW K P) (h6 : 0 ≤ I 1032 0 ∧ I 1032 0 ≤ 6) (hw : ∀ t, 0 ≤ t → t < 6 → 0 ≤ I 1034 t ∧ I 1034 t ≤ 4) : Sp m_Planner_takeStatistics false (rmv 4 140) (ex K P J (ksT I I (I 1032 0).toNat) (.inl none)) K P J I [vR (some 1384), vR (some 1032), vR (some 1160)] := by
  refine Sp.ofV (by decide) (Or.inr rfl) rfl ?_
  have loopZ : ∀ (l mZ : Nat), mZ + l = I 1032 0 → VW m_Planner_takeStatistics false (rmv 4 140) (ex K P J (ksT I I (I 1032 0).toNat) (.inl none)) K P J (ksT I I mZ) 0 0 2 [(0, vR (some 1384)), (1, vR (some 1032)), (2, vR (some 1160)), (3, vI (mZ : Int))] [] := by
    intro l
    induction l with
    | zero =>
      intro mZ hmZ
      have e0Z : ksT I I mZ 1032 0 = I 1032 0 := by rw [ksT_o (by decide) (by decide)]
      rw [show (I 1032 0).toNat = mZ by omega]
      have finZ : ex K P J (ksT I I mZ) (.inl none) (.inl none) K P J (ksT I I mZ) := ex_rf
      refine VW.iload_n (pc' := 3) d_Planner_takeStatistics_2 rfl rfl ?_
      refine VW.aload_n (pc' := 4) d_Planner_takeStatistics_3 rfl rfl ?_
      refine VW.gI (ci := 7) (T := T7) (N := 8) (k := 0) (k' := 0) (pc' := 7) d_Planner_takeStatistics_4 rfl lk_Planner_46 in7 rfl rfl rfl rfl (by first | exact hC.st.1 | exact hC.sc.1 | exact hC.k 39 rfl | exact hC.k 3 rfl | exact hC.k 40 rfl | exact hC.k 41 rfl) (by first | exact hC.p 9 rfl | exact hC.p 42 rfl | exact hC.p 43 rfl | exact e0Z | exact ew | rfl) ?_
      refine VW.icmp_ge (tgt := 65) (pc' := 10) d_Planner_takeStatistics_7 rfl rfl (fun c7 => ?_) (fun c7 => ?_)
      · exact VW.vret d_Planner_takeStatistics_65 rfl (Nat.zero_le _) (Nat.zero_le _) (finZ)
      · exfalso; omega
    | succ l ihZ =>
      intro mZ hmZ
      have ih1 := ihZ (mZ + 1) (by omega)
      have em : ((mZ + 1 : Nat) : Int) = (mZ : Int) + 1 := by omega
      rw [em] at ih1
      have m6Z : (mZ : Int) < 6 := by omega
      have w0Z := hw mZ (by omega) m6Z
      have e0Z : ksT I I mZ 1032 0 = I 1032 0 := by rw [ksT_o (by decide) (by decide)]
      have innerZ : ∀ (l2 zZ : Nat), zZ + l2 = I 1034 mZ → VW m_Planner_takeStatistics false (rmv 4 140) (ex K P J (ksT I I (I 1032 0).toNat) (.inl none)) K P J (ksC I (up2 (ksT I I mZ) 1385 mZ (rwCnt I 1161 mZ 8)) mZ zZ) 0 0 24 [(0, vR (some 1384)), (1, vR (some 1032)), (2, vR (some 1160)), (3, vI (mZ : Int)), (4, vI (zZ : Int))] [] := by
        intro l2
        induction l2 with
        | zero =>
          intro zZ hz
          have ew : ksC I (up2 (ksT I I mZ) 1385 mZ (rwCnt I 1161 mZ 8)) mZ zZ 1034 (mZ : Int) = I 1034 mZ := by rw [ksC_o (by decide), up2_o _ _ _ _ (by decide), ksT_o (by decide) (by decide)]
          have eZ : ksC I (up2 (ksT I I mZ) 1385 mZ (rwCnt I 1161 mZ 8)) mZ zZ = ksT I I (mZ + 1) := by
            show _ = ksC I (up2 (ksT I I mZ) 1385 mZ (rwCnt I 1161 mZ 8)) mZ (I 1034 mZ).toNat
            rw [show (I 1034 mZ).toNat = zZ by omega]
          rw [← eZ] at ih1
          clear eZ ihZ
          refine VW.iload (pc' := 26) d_Planner_takeStatistics_24 rfl rfl ?_
          refine VW.aload_n (pc' := 27) d_Planner_takeStatistics_26 rfl rfl ?_
          refine VW.gP (ci := 7) (T := T7) (N := 8) (k := 1) (k' := 1) (pc' := 30) d_Planner_takeStatistics_27 rfl lk_Planner_58 in7 rfl rfl rfl rfl (by first | exact hC.st.1 | exact hC.sc.1 | exact hC.k 39 rfl | exact hC.k 3 rfl | exact hC.k 40 rfl | exact hC.k 41 rfl) (by first | exact hC.p 9 rfl | exact hC.p 42 rfl | exact hC.p 43 rfl | exact e0Z | exact ew | rfl) ?_
          refine VW.iload_n (pc' := 31) d_Planner_takeStatistics_30 rfl rfl ?_
          refine VW.ild (pc' := 32) d_Planner_takeStatistics_31 rfl (by first | exact hC.st.1 | exact hC.sc.1 | exact hC.k 39 rfl | exact hC.k 3 rfl | exact hC.k 40 rfl | exact hC.k 41 rfl) (by omega) (by omega) (by first | exact hC.p 9 rfl | exact hC.p 42 rfl | exact hC.p 43 rfl | exact e0Z | exact ew | rfl) ?_
          refine VW.icmp_ge (tgt := 59) (pc' := 35) d_Planner_takeStatistics_32 rfl rfl (fun c32 => ?_) (fun c32 => ?_)
          · refine VW.iinc (pc' := 62) d_Planner_takeStatistics_59 rfl rfl rfl (by omega) ?_
            refine VW.goto (pc' := 2) d_Planner_takeStatistics_62 rfl ?_
            refine VW.pick [0, 1, 2, 3] ?_
            exact ih1
          · exfalso; omega
        | succ l2 ih2 =>
          intro zZ hz
          have ih3 := ih2 (zZ + 1) (by omega)
          have ez : ((zZ + 1 : Nat) : Int) = (zZ : Int) + 1 := by omega
          rw [ez] at ih3
          have ew : ksC I (up2 (ksT I I mZ) 1385 mZ (rwCnt I 1161 mZ 8)) mZ zZ 1034 (mZ : Int) = I 1034 mZ := by rw [ksC_o (by decide), up2_o _ _ _ _ (by decide), ksT_o (by decide) (by decide)]
          have spD := sp_Planner_countDistinct (J := J) (I := ksC I (up2 (ksT I I mZ) 1385 mZ (rwCnt I 1161 mZ 8)) mZ zZ) (t := mZ) (c := zZ) hC ⟨by omega, m6Z⟩ ⟨by omega, by omega⟩
          rw [clD_of (I := I) (by rw [ksC_o (by decide)]; funext x; rw [up2_o _ _ _ _ (by decide), ksT_o (by decide) (by decide)])] at spD
          clear ihZ ih1 ih2
          refine VW.iload (pc' := 26) d_Planner_takeStatistics_24 rfl rfl ?_
          refine VW.aload_n (pc' := 27) d_Planner_takeStatistics_26 rfl rfl ?_
          refine VW.gP (ci := 7) (T := T7) (N := 8) (k := 1) (k' := 1) (pc' := 30) d_Planner_takeStatistics_27 rfl lk_Planner_58 in7 rfl rfl rfl rfl (by first | exact hC.st.1 | exact hC.sc.1 | exact hC.k 39 rfl | exact hC.k 3 rfl | exact hC.k 40 rfl | exact hC.k 41 rfl) (by first | exact hC.p 9 rfl | exact hC.p 42 rfl | exact hC.p 43 rfl | exact e0Z | exact ew | rfl) ?_
          refine VW.iload_n (pc' := 31) d_Planner_takeStatistics_30 rfl rfl ?_
          refine VW.ild (pc' := 32) d_Planner_takeStatistics_31 rfl (by first | exact hC.st.1 | exact hC.sc.1 | exact hC.k 39 rfl | exact hC.k 3 rfl | exact hC.k 40 rfl | exact hC.k 41 rfl) (by omega) (by omega) (by first | exact hC.p 9 rfl | exact hC.p 42 rfl | exact hC.p 43 rfl | exact e0Z | exact ew | rfl) ?_
          refine VW.icmp_ge (tgt := 59) (pc' := 35) d_Planner_takeStatistics_32 rfl rfl (fun c32 => ?_) (fun c32 => ?_)
          · exfalso; omega
          · refine VW.aload_n (pc' := 36) d_Planner_takeStatistics_35 rfl rfl ?_
            refine VW.gP (ci := 3) (T := T3) (N := 14) (k := 1) (k' := 1) (pc' := 39) d_Planner_takeStatistics_36 rfl lk_Planner_15 in3 rfl rfl rfl rfl (by first | exact hC.st.1 | exact hC.sc.1 | exact hC.k 39 rfl | exact hC.k 3 rfl | exact hC.k 40 rfl | exact hC.k 41 rfl) (by first | exact hC.p 9 rfl | exact hC.p 42 rfl | exact hC.p 43 rfl | exact e0Z | exact ew | rfl) ?_
            refine VW.iload_n (pc' := 40) d_Planner_takeStatistics_39 rfl rfl ?_
            refine VW.iconst (pc' := 41) d_Planner_takeStatistics_40 rfl (by decide) ?_
            refine VW.imul (pc' := 42) d_Planner_takeStatistics_41 rfl (by omega) ?_
            refine VW.iload (pc' := 44) d_Planner_takeStatistics_42 rfl rfl ?_
            refine VW.iadd (pc' := 45) d_Planner_takeStatistics_44 rfl (by omega) ?_
            refine VW.aload_n (pc' := 46) d_Planner_takeStatistics_45 rfl rfl ?_
            refine VW.iload_n (pc' := 47) d_Planner_takeStatistics_46 rfl rfl ?_
            refine VW.iload (pc' := 49) d_Planner_takeStatistics_47 rfl rfl ?_
            refine VW.cS (pc' := 52) d_Planner_takeStatistics_49 rfl ms_Planner_countDistinct lk_Planner_61 rfl rfl rfl (Nat.le_refl _) (Nat.le_refl _) (spD) rfl rfl ?_
            refine VW.iast (pc' := 53) d_Planner_takeStatistics_52 rfl (by first | exact hC.st.1 | exact hC.sc.1 | exact hC.k 39 rfl | exact hC.k 3 rfl | exact hC.k 40 rfl | exact hC.k 41 rfl) (by omega) (by omega) ?_
            refine VW.iinc (pc' := 56) d_Planner_takeStatistics_53 rfl rfl rfl (by omega) ?_
            refine VW.goto (pc' := 24) d_Planner_takeStatistics_56 rfl ?_
            refine VW.pick [0, 1, 2, 3, 4] ?_
            exact ih3
      have i0Z := innerZ (I 1034 mZ).toNat 0 (by omega)
      have spC := sp_Rows_count (J := J) (I := ksT I I mZ) (t := mZ) hC.st ⟨by omega, m6Z⟩
      rw [rwCnt_at (I := I) (by rw [ksT_o (by decide) (by decide)])] at spC
      clear innerZ ihZ ih1
      refine VW.iload_n (pc' := 3) d_Planner_takeStatistics_2 rfl rfl ?_
      refine VW.aload_n (pc' := 4) d_Planner_takeStatistics_3 rfl rfl ?_
      refine VW.gI (ci := 7) (T := T7) (N := 8) (k := 0) (k' := 0) (pc' := 7) d_Planner_takeStatistics_4 rfl lk_Planner_46 in7 rfl rfl rfl rfl (by first | exact hC.st.1 | exact hC.sc.1 | exact hC.k 39 rfl | exact hC.k 3 rfl | exact hC.k 40 rfl | exact hC.k 41 rfl) (by first | exact hC.p 9 rfl | exact hC.p 42 rfl | exact hC.p 43 rfl | exact e0Z | exact ew | rfl) ?_
      refine VW.icmp_ge (tgt := 65) (pc' := 10) d_Planner_takeStatistics_7 rfl rfl (fun c7 => ?_) (fun c7 => ?_)
      · exfalso; omega
      · refine VW.aload_n (pc' := 11) d_Planner_takeStatistics_10 rfl rfl ?_
        refine VW.gP (ci := 3) (T := T3) (N := 14) (k := 0) (k' := 0) (pc' := 14) d_Planner_takeStatistics_11 rfl lk_Planner_9 in3 rfl rfl rfl rfl (by first | exact hC.st.1 | exact hC.sc.1 | exact hC.k 39 rfl | exact hC.k 3 rfl | exact hC.k 40 rfl | exact hC.k 41 rfl) (by first | exact hC.p 9 rfl | exact hC.p 42 rfl | exact hC.p 43 rfl | exact e0Z | exact ew | rfl) ?_
        refine VW.iload_n (pc' := 15) d_Planner_takeStatistics_14 rfl rfl ?_
        refine VW.aload_n (pc' := 16) d_Planner_takeStatistics_15 rfl rfl ?_
        refine VW.iload_n (pc' := 17) d_Planner_takeStatistics_16 rfl rfl ?_
        refine VW.cV (ci := 6) (T := T6) (N := 1) (pc' := 20) d_Planner_takeStatistics_17 rfl mv_Rows_count lk_Planner_52 rfl (by first | exact hC.st.1 | exact hC.sc.1 | exact hC.k 39 rfl | exact hC.k 3 rfl | exact hC.k 40 rfl | exact hC.k 41 rfl) rfl rfl rfl (Nat.le_refl _) (Nat.le_refl _) (spC) rfl rfl ?_
        refine VW.iast (pc' := 21) d_Planner_takeStatistics_20 rfl (by first | exact hC.st.1 | exact hC.sc.1 | exact hC.k 39 rfl | exact hC.k 3 rfl | exact hC.k 40 rfl | exact hC.k 41 rfl) (by omega) (by omega) ?_
        refine VW.iconst (pc' := 22) d_Planner_takeStatistics_21 rfl (by decide) ?_
        refine VW.istore (pc' := 24) d_Planner_takeStatistics_22 rfl rfl ?_
        refine VW.pick [0, 1, 2, 3, 4] ?_
        exact i0Z
  have l := loopZ (I 1032 0).toNat 0 (by omega)
  clear loopZ
  refine VW.iconst (pc' := 1) d_Planner_takeStatistics_0 rfl (by decide) ?_
  refine VW.istore_n (pc' := 2) d_Planner_takeStatistics_1 rfl rfl ?_
  refine VW.nrm ?_
  exact l
theorem analyze_run {n lq : Nat} (hC : ClW K P) (hL : QnL K P I n lq) (h6 : 0 ≤ I 1032 0 ∧ I 1032 0 ≤ 6) (hw : ∀ t, 0 ≤ t → t < 6 → 0 ≤ I 1034 t ∧ I 1034 t ≤ 4) : Sp m_F_analyze false (rmv 6 240) (ex K P J (dpI (ksT I I (I 1032 0).toNat) n) (.inl (some (vI (dpN (ksT I I (I 1032 0).toNat) n))))) K P J I [vR (some 1000)] := by
  have spS := sp_Planner_takeStatistics (J := J) hC h6 hw
  have hL2 : QnL K P (ksT I I (I 1032 0).toNat) n lq := by
    have eZ : ksT I I (I 1032 0).toNat 1480 = I 1480 := ksT_o (by decide) (by decide) _
    have e2Z : ksT I I (I 1032 0).toNat 999 = I 999 := ksT_o (by decide) (by decide) _
    obtain ⟨⟨a1Z, a2, a3, a4, a5⟩, bZ, c⟩ := hL
    exact ⟨⟨a1Z, a2, a3, by rw [eZ]; exact a4, a5⟩, bZ, c⟩
  have spD := sp_F_dropPlans (J := J) hC hL2
  refine Sp.ofV (by decide) (Or.inr rfl) rfl ?_
  refine VW.aload_n (pc' := 1) d_F_analyze_0 rfl rfl ?_
  refine VW.gP (ci := 10) (T := T10) (N := 11) (k := 3) (k' := 3) (pc' := 4) d_F_analyze_1 rfl lk_F_35 in10 rfl rfl rfl rfl (by first | exact hC.k 0 rfl | exact hC.k 9 rfl | exact hC.k 39 rfl) (by first | exact hC.p 3 rfl | exact hC.p 0 rfl | exact hC.p 16 rfl | exact hC.p 1 rfl) ?_
  refine VW.aload_n (pc' := 5) d_F_analyze_4 rfl rfl ?_
  refine VW.gP (ci := 10) (T := T10) (N := 11) (k := 0) (k' := 0) (pc' := 8) d_F_analyze_5 rfl lk_F_12 in10 rfl rfl rfl rfl (by first | exact hC.k 0 rfl | exact hC.k 9 rfl | exact hC.k 39 rfl) (by first | exact hC.p 3 rfl | exact hC.p 0 rfl | exact hC.p 16 rfl | exact hC.p 1 rfl) ?_
  refine VW.aload_n (pc' := 9) d_F_analyze_8 rfl rfl ?_
  refine VW.gP (ci := 10) (T := T10) (N := 11) (k := 1) (k' := 1) (pc' := 12) d_F_analyze_9 rfl lk_F_21 in10 rfl rfl rfl rfl (by first | exact hC.k 0 rfl | exact hC.k 9 rfl | exact hC.k 39 rfl) (by first | exact hC.p 3 rfl | exact hC.p 0 rfl | exact hC.p 16 rfl | exact hC.p 1 rfl) ?_
  refine VW.gP (ci := 0) (T := T0) (N := 8) (k := 1) (k' := 1) (pc' := 15) d_F_analyze_12 rfl lk_F_110 in0 rfl rfl rfl rfl (by first | exact hC.k 0 rfl | exact hC.k 9 rfl | exact hC.k 39 rfl) (by first | exact hC.p 3 rfl | exact hC.p 0 rfl | exact hC.p 16 rfl | exact hC.p 1 rfl) ?_
  refine VW.cV (ci := 3) (T := T3) (N := 14) (pc' := 18) d_F_analyze_15 rfl mv_Planner_takeStatistics lk_F_291 rfl (by first | exact hC.k 0 rfl | exact hC.k 9 rfl | exact hC.k 39 rfl) rfl rfl rfl (Nat.le_refl _) (Nat.le_refl _) (spS) rfl rfl ?_
  refine VW.aload_n (pc' := 19) d_F_analyze_18 rfl rfl ?_
  refine VW.cV (ci := 10) (T := T10) (N := 11) (pc' := 22) d_F_analyze_19 rfl mv_F_dropPlans lk_F_85 rfl (by first | exact hC.k 0 rfl | exact hC.k 9 rfl | exact hC.k 39 rfl) rfl rfl rfl (Nat.le_refl _) (Nat.le_refl _) (spD) rfl rfl ?_
  exact VW.iret d_F_analyze_22 rfl rfl (Nat.zero_le _) (Nat.zero_le _) ex_rf
end
