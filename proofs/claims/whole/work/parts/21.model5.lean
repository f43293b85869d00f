section
variable {K : KT} {P : PT} {J I : IT}
/-- a row refers to one that is deleted -/
def mBroken (I : IT) (s t r c : Int) : Prop := I 206 (4 * t + c) ≠ -1 ∧ I 215 (mrow s t r + c) ≠ -2147483648 ∧ mfind I s (I 206 (4 * t + c)) (I 215 (mrow s t r + c)) ≠ -1 ∧ I 239 (64 * I 206 (4 * t + c) + mfind I s (I 206 (4 * t + c)) (I 215 (mrow s t r + c))) ≠ 0
theorem sp_Model_isBroken {s t r c : Int} (hM : MW K P) (hb : MB I) (hs : 0 ≤ s ∧ s ≤ 4) (ht : 0 ≤ t ∧ t < 6) (hr : 0 ≤ r ∧ r < 64) (hc : 0 ≤ c ∧ c < 4) : Sp m_Model_isBroken false (rmv 2 47) (ex K P J I (.inl (some (vI (bI (mBroken I s t r c)))))) K P J I [vR (some 100), vI s, vI t, vI r, vI c] := by
  refine Sp.ofV (by decide) (Or.inr rfl) rfl ?_
  have t0 := hb.tgt (4 * t + c)
  have o0 := hb.row (6 * s + I 206 (4 * t + c))
  have m0 := mfind_rg I s (I 206 (4 * t + c)) (I 215 (4 * (64 * (6 * s + t) + r) + c))
  refine VW.aload_n (pc' := 1) d_Model_isBroken_0 rfl rfl ?_
  refine VW.gP (ci := 11) (T := T11) (N := 94) (k := 6) (k' := 6) (pc' := 4) d_Model_isBroken_1 rfl lk_Model_25 in11 rfl rfl rfl rfl (hM.k rfl) (hM.p (r := some 206) 6 rfl rfl) ?_
  refine VW.iconst (pc' := 5) d_Model_isBroken_4 rfl (by decide) ?_
  refine VW.iload_n (pc' := 6) d_Model_isBroken_5 rfl rfl ?_
  refine VW.imul (pc' := 7) d_Model_isBroken_6 rfl (by omega) ?_
  refine VW.iload (pc' := 9) d_Model_isBroken_7 rfl rfl ?_
  refine VW.iadd (pc' := 10) d_Model_isBroken_9 rfl (by omega) ?_
  refine VW.ild (pc' := 11) d_Model_isBroken_10 rfl (hM.k rfl) (by omega) (by omega) (by first | assumption | (simp [up2] <;> rfl) | rfl) ?_
  refine VW.istore (pc' := 13) d_Model_isBroken_11 rfl rfl ?_
  refine VW.aload_n (pc' := 14) d_Model_isBroken_13 rfl rfl ?_
  refine VW.gP (ci := 11) (T := T11) (N := 94) (k := 15) (k' := 15) (pc' := 17) d_Model_isBroken_14 rfl lk_Model_49 in11 rfl rfl rfl rfl (hM.k rfl) (hM.p (r := some 215) 15 rfl rfl) ?_
  refine VW.iload_n (pc' := 18) d_Model_isBroken_17 rfl rfl ?_
  refine VW.iload_n (pc' := 19) d_Model_isBroken_18 rfl rfl ?_
  refine VW.iload_n (pc' := 20) d_Model_isBroken_19 rfl rfl ?_
  refine VW.iload (pc' := 22) d_Model_isBroken_20 rfl rfl ?_
  refine VW.cS (pc' := 25) d_Model_isBroken_22 rfl ms_Model_cell lk_Model_273 rfl rfl rfl (Nat.le_refl _) (Nat.le_refl _) (sp_Model_cell (by omega) (by omega) (by omega) (by omega)) rfl rfl ?_
  refine VW.ild (pc' := 26) d_Model_isBroken_25 rfl (hM.k rfl) (by omega) (by omega) (by first | assumption | (simp [up2] <;> rfl) | rfl) ?_
  refine VW.istore (pc' := 28) d_Model_isBroken_26 rfl rfl ?_
  refine VW.iload (pc' := 30) d_Model_isBroken_28 rfl rfl ?_
  refine VW.iconst (pc' := 31) d_Model_isBroken_30 rfl (by decide) ?_
  refine VW.icmp_eq (tgt := 41) (pc' := 34) d_Model_isBroken_31 rfl rfl (fun c31 => ?_) (fun c31 => ?_)
  · refine VW.iconst (pc' := 42) d_Model_isBroken_41 rfl (by decide) ?_
    refine VW.goto (pc' := 54) d_Model_isBroken_42 rfl ?_
    refine VW.istore (pc' := 56) d_Model_isBroken_54 rfl rfl ?_
    refine VW.iload (pc' := 58) d_Model_isBroken_56 rfl rfl ?_
    refine VW.iconst (pc' := 59) d_Model_isBroken_58 rfl (by decide) ?_
    refine VW.icmp_eq (tgt := 82) (pc' := 62) d_Model_isBroken_59 rfl rfl (fun _ => ?_) (fun c59 => absurd c59 (by decide))
    refine VW.iconst (pc' := 83) d_Model_isBroken_82 rfl (by decide) ?_
    exact VW.iret d_Model_isBroken_83 rfl rfl (Nat.zero_le _) (Nat.zero_le _) (by first | exact ex_v (bI1 ⟨c31, c38, c59, c75⟩) | exact ex_v (bI0 (fun z => z.1 c31)) | exact ex_v (bI0 (fun z => z.2.1 c38)) | exact ex_v (bI0 (fun z => z.2.2.1 c59)) | exact ex_v (bI0 (fun z => z.2.2.2 c75)))
  · refine VW.iload (pc' := 36) d_Model_isBroken_34 rfl rfl ?_
    refine VW.ldc (pc' := 38) (z := -2147483648) d_Model_isBroken_36 rfl lk_Model_246 (by decide) (by decide) ?_
    refine VW.icmp_ne (tgt := 45) (pc' := 41) d_Model_isBroken_38 rfl rfl (fun c38 => ?_) (fun c38 => ?_)
    · refine VW.aload_n (pc' := 46) d_Model_isBroken_45 rfl rfl ?_
      refine VW.iload_n (pc' := 47) d_Model_isBroken_46 rfl rfl ?_
      refine VW.iload (pc' := 49) d_Model_isBroken_47 rfl rfl ?_
      refine VW.iload (pc' := 51) d_Model_isBroken_49 rfl rfl ?_
      refine VW.cV (ci := 11) (T := T11) (N := 94) (pc' := 54) d_Model_isBroken_51 rfl mv_Model_find lk_Model_305 rfl (hM.k rfl) rfl rfl rfl (Nat.le_refl _) (Nat.le_refl _) (sp_Model_find hM hs (by omega) (by omega)) rfl rfl ?_
      refine VW.istore (pc' := 56) d_Model_isBroken_54 rfl rfl ?_
      refine VW.iload (pc' := 58) d_Model_isBroken_56 rfl rfl ?_
      refine VW.iconst (pc' := 59) d_Model_isBroken_58 rfl (by decide) ?_
      refine VW.icmp_eq (tgt := 82) (pc' := 62) d_Model_isBroken_59 rfl rfl (fun c59 => ?_) (fun c59 => ?_)
      · refine VW.iconst (pc' := 83) d_Model_isBroken_82 rfl (by decide) ?_
        exact VW.iret d_Model_isBroken_83 rfl rfl (Nat.zero_le _) (Nat.zero_le _) (by first | exact ex_v (bI1 ⟨c31, c38, c59, c75⟩) | exact ex_v (bI0 (fun z => z.1 c31)) | exact ex_v (bI0 (fun z => z.2.1 c38)) | exact ex_v (bI0 (fun z => z.2.2.1 c59)) | exact ex_v (bI0 (fun z => z.2.2.2 c75)))
      · refine VW.aload_n (pc' := 63) d_Model_isBroken_62 rfl rfl ?_
        refine VW.gP (ci := 11) (T := T11) (N := 94) (k := 39) (k' := 39) (pc' := 66) d_Model_isBroken_63 rfl lk_Model_114 in11 rfl rfl rfl rfl (hM.k rfl) (hM.p (r := some 239) 39 rfl rfl) ?_
        refine VW.bipush (pc' := 68) d_Model_isBroken_66 rfl (by decide) ?_
        refine VW.iload (pc' := 70) d_Model_isBroken_68 rfl rfl ?_
        refine VW.imul (pc' := 71) d_Model_isBroken_70 rfl (by omega) ?_
        refine VW.iload (pc' := 73) d_Model_isBroken_71 rfl rfl ?_
        refine VW.iadd (pc' := 74) d_Model_isBroken_73 rfl (by omega) ?_
        refine VW.zld (pc' := 75) d_Model_isBroken_74 rfl (hM.k rfl) (by omega) (by omega) (by first | assumption | (simp [up2] <;> rfl) | rfl) ?_
        refine VW.if_eq (tgt := 82) (pc' := 78) d_Model_isBroken_75 rfl rfl (fun c75 => ?_) (fun c75 => ?_)
        · try have e75 := bIe c75
          refine VW.iconst (pc' := 83) d_Model_isBroken_82 rfl (by decide) ?_
          exact VW.iret d_Model_isBroken_83 rfl rfl (Nat.zero_le _) (Nat.zero_le _) (by first | exact ex_v (bI1 ⟨c31, c38, c59, c75⟩) | exact ex_v (bI0 (fun z => z.1 c31)) | exact ex_v (bI0 (fun z => z.2.1 c38)) | exact ex_v (bI0 (fun z => z.2.2.1 c59)) | exact ex_v (bI0 (fun z => z.2.2.2 c75)))
        · try have e75 := bIn c75
          refine VW.iconst (pc' := 79) d_Model_isBroken_78 rfl (by decide) ?_
          refine VW.goto (pc' := 83) d_Model_isBroken_79 rfl ?_
          exact VW.iret d_Model_isBroken_83 rfl rfl (Nat.zero_le _) (Nat.zero_le _) (by first | exact ex_v (bI1 ⟨c31, c38, c59, c75⟩) | exact ex_v (bI0 (fun z => z.1 c31)) | exact ex_v (bI0 (fun z => z.2.1 c38)) | exact ex_v (bI0 (fun z => z.2.2.1 c59)) | exact ex_v (bI0 (fun z => z.2.2.2 c75)))
    · refine VW.iconst (pc' := 42) d_Model_isBroken_41 rfl (by decide) ?_
      refine VW.goto (pc' := 54) d_Model_isBroken_42 rfl ?_
      refine VW.istore (pc' := 56) d_Model_isBroken_54 rfl rfl ?_
      refine VW.iload (pc' := 58) d_Model_isBroken_56 rfl rfl ?_
      refine VW.iconst (pc' := 59) d_Model_isBroken_58 rfl (by decide) ?_
      refine VW.icmp_eq (tgt := 82) (pc' := 62) d_Model_isBroken_59 rfl rfl (fun _ => ?_) (fun c59 => absurd c59 (by decide))
      refine VW.iconst (pc' := 83) d_Model_isBroken_82 rfl (by decide) ?_
      exact VW.iret d_Model_isBroken_83 rfl rfl (Nat.zero_le _) (Nat.zero_le _) (by first | exact ex_v (bI1 ⟨c31, c38, c59, c75⟩) | exact ex_v (bI0 (fun z => z.1 c31)) | exact ex_v (bI0 (fun z => z.2.1 c38)) | exact ex_v (bI0 (fun z => z.2.2.1 c59)) | exact ex_v (bI0 (fun z => z.2.2.2 c75)))
def mRefers (I : IT) (s t r w : Int) : Prop := ∃ c, 1 ≤ c ∧ c < I 201 t ∧ (mBroken I s t r c ∧ I 207 (4 * t + c) = w)
theorem sp_Model_refers {s t r w : Int} (hM : MW K P) (hb : MB I) (hs : 0 ≤ s ∧ s ≤ 4) (ht : 0 ≤ t ∧ t < 6) (hr : 0 ≤ r ∧ r < 64) : Sp m_Model_refers false (rmv 3 74) (ex K P J I (.inl (some (vI (bI (mRefers I s t r w)))))) K P J I [vR (some 100), vI s, vI t, vI r, vI w] := by
  refine Sp.ofV (by decide) (Or.inr rfl) rfl ?_
  have k0 := hb.col t
  have loop : ∀ (n : Nat) (c is : Int), (c + n = I 201 t ∨ (n = 0 ∧ I 201 t ≤ c)) → 1 ≤ c → orI (fun c => mBroken I s t r c ∧ I 207 (4 * t + c) = w) 1 c is → (I 201 t < c → is = 0 ∧ c = 1) → VW m_Model_refers false (rmv 3 74) (ex K P J I (.inl (some (vI (bI (mRefers I s t r w)))))) K P J I 0 0 6 [(0, vR (some 100)), (1, vI s), (2, vI t), (3, vI r), (4, vI w), (5, vI is), (6, vI c)] [] := by
    intro n
    induction n with
    | zero =>
      intro c is hk hq hi hz
      refine VW.iload (pc' := 8) d_Model_refers_6 rfl rfl ?_
      refine VW.aload_n (pc' := 9) d_Model_refers_8 rfl rfl ?_
      refine VW.gP (ci := 11) (T := T11) (N := 94) (k := 1) (k' := 1) (pc' := 12) d_Model_refers_9 rfl lk_Model_7 in11 rfl rfl rfl rfl (hM.k rfl) (hM.p (r := some 201) 1 rfl rfl) ?_
      refine VW.iload_n (pc' := 13) d_Model_refers_12 rfl rfl ?_
      refine VW.ild (pc' := 14) d_Model_refers_13 rfl (hM.k rfl) (by omega) (by omega) (by first | assumption | (simp [up2] <;> rfl) | rfl) ?_
      refine VW.icmp_ge (tgt := 63) (pc' := 17) d_Model_refers_14 rfl rfl (fun c14 => ?_) (fun c14 => ?_)
      · refine VW.iload (pc' := 65) d_Model_refers_63 rfl rfl ?_
        exact VW.iret d_Model_refers_65 rfl (narZ hi.h01) (Nat.zero_le _) (Nat.zero_le _) (by
          by_cases h : I 201 t < c
          · rw [(hz h).1, show mRefers I s t r w = _ from rfl, bI0 (fun ⟨j, a, b, _⟩ => by have := (hz h).2; omega)]; exact ex_rf
          · rw [show mRefers I s t r w = (∃ j, 1 ≤ j ∧ j < c ∧ (mBroken I s t r j ∧ I 207 (4 * t + j) = w)) from by unfold mRefers; rw [show I 201 t = c by omega], ← hi.bI]; exact ex_rf)
      · exfalso; omega
    | succ n ih =>
      intro c is hk hq hi hz
      refine VW.iload (pc' := 8) d_Model_refers_6 rfl rfl ?_
      refine VW.aload_n (pc' := 9) d_Model_refers_8 rfl rfl ?_
      refine VW.gP (ci := 11) (T := T11) (N := 94) (k := 1) (k' := 1) (pc' := 12) d_Model_refers_9 rfl lk_Model_7 in11 rfl rfl rfl rfl (hM.k rfl) (hM.p (r := some 201) 1 rfl rfl) ?_
      refine VW.iload_n (pc' := 13) d_Model_refers_12 rfl rfl ?_
      refine VW.ild (pc' := 14) d_Model_refers_13 rfl (hM.k rfl) (by omega) (by omega) (by first | assumption | (simp [up2] <;> rfl) | rfl) ?_
      refine VW.icmp_ge (tgt := 63) (pc' := 17) d_Model_refers_14 rfl rfl (fun c14 => ?_) (fun c14 => ?_)
      · exfalso; omega
      · refine VW.iload (pc' := 19) d_Model_refers_17 rfl rfl ?_
        refine VW.if_ne (tgt := 50) (pc' := 22) d_Model_refers_19 rfl rfl (fun c19 => ?_) (fun c19 => ?_)
        · try have e19 := bIn c19
          refine VW.iconst (pc' := 51) d_Model_refers_50 rfl (by decide) ?_
          refine VW.goto (pc' := 55) d_Model_refers_51 rfl ?_
          refine VW.istore (pc' := 57) d_Model_refers_55 rfl rfl ?_
          refine VW.iinc (pc' := 60) d_Model_refers_57 rfl rfl rfl (by omega) ?_
          refine VW.goto (pc' := 6) d_Model_refers_60 rfl ?_
          refine VW.nrm ?_
          exact ih (c + 1) _ (by omega) (by omega) (by first | exact hi.keep c19 | exact orI.hit hq ⟨e31, c47⟩ | exact hi.no c19 (fun z => e31 z.1) | exact hi.no c19 (fun z => c47 z.2)) (fun h => by omega)
        · try have e19 := bIe c19
          refine VW.aload_n (pc' := 23) d_Model_refers_22 rfl rfl ?_
          refine VW.iload_n (pc' := 24) d_Model_refers_23 rfl rfl ?_
          refine VW.iload_n (pc' := 25) d_Model_refers_24 rfl rfl ?_
          refine VW.iload_n (pc' := 26) d_Model_refers_25 rfl rfl ?_
          refine VW.iload (pc' := 28) d_Model_refers_26 rfl rfl ?_
          refine VW.cV (ci := 11) (T := T11) (N := 94) (pc' := 31) d_Model_refers_28 rfl mv_Model_isBroken lk_Model_328 rfl (hM.k rfl) rfl rfl rfl (Nat.le_refl _) (Nat.le_refl _) (sp_Model_isBroken hM hb hs ht hr (by omega)) rfl rfl ?_
          refine VW.if_eq (tgt := 54) (pc' := 34) d_Model_refers_31 rfl rfl (fun c31 => ?_) (fun c31 => ?_)
          · try have e31 := bIe c31
            refine VW.iconst (pc' := 55) d_Model_refers_54 rfl (by decide) ?_
            refine VW.istore (pc' := 57) d_Model_refers_55 rfl rfl ?_
            refine VW.iinc (pc' := 60) d_Model_refers_57 rfl rfl rfl (by omega) ?_
            refine VW.goto (pc' := 6) d_Model_refers_60 rfl ?_
            refine VW.nrm ?_
            exact ih (c + 1) _ (by omega) (by omega) (by first | exact hi.keep c19 | exact orI.hit hq ⟨e31, c47⟩ | exact hi.no c19 (fun z => e31 z.1) | exact hi.no c19 (fun z => c47 z.2)) (fun h => by omega)
          · try have e31 := bIn c31
            refine VW.aload_n (pc' := 35) d_Model_refers_34 rfl rfl ?_
            refine VW.gP (ci := 11) (T := T11) (N := 94) (k := 7) (k' := 7) (pc' := 38) d_Model_refers_35 rfl lk_Model_28 in11 rfl rfl rfl rfl (hM.k rfl) (hM.p (r := some 207) 7 rfl rfl) ?_
            refine VW.iconst (pc' := 39) d_Model_refers_38 rfl (by decide) ?_
            refine VW.iload_n (pc' := 40) d_Model_refers_39 rfl rfl ?_
            refine VW.imul (pc' := 41) d_Model_refers_40 rfl (by omega) ?_
            refine VW.iload (pc' := 43) d_Model_refers_41 rfl rfl ?_
            refine VW.iadd (pc' := 44) d_Model_refers_43 rfl (by omega) ?_
            refine VW.ild (pc' := 45) d_Model_refers_44 rfl (hM.k rfl) (by omega) (by omega) (by first | assumption | (simp [up2] <;> rfl) | rfl) ?_
            refine VW.iload (pc' := 47) d_Model_refers_45 rfl rfl ?_
            refine VW.icmp_ne (tgt := 54) (pc' := 50) d_Model_refers_47 rfl rfl (fun c47 => ?_) (fun c47 => ?_)
            · refine VW.iconst (pc' := 55) d_Model_refers_54 rfl (by decide) ?_
              refine VW.istore (pc' := 57) d_Model_refers_55 rfl rfl ?_
              refine VW.iinc (pc' := 60) d_Model_refers_57 rfl rfl rfl (by omega) ?_
              refine VW.goto (pc' := 6) d_Model_refers_60 rfl ?_
              refine VW.nrm ?_
              exact ih (c + 1) _ (by omega) (by omega) (by first | exact hi.keep c19 | exact orI.hit hq ⟨e31, c47⟩ | exact hi.no c19 (fun z => e31 z.1) | exact hi.no c19 (fun z => c47 z.2)) (fun h => by omega)
            · refine VW.iconst (pc' := 51) d_Model_refers_50 rfl (by decide) ?_
              refine VW.goto (pc' := 55) d_Model_refers_51 rfl ?_
              refine VW.istore (pc' := 57) d_Model_refers_55 rfl rfl ?_
              refine VW.iinc (pc' := 60) d_Model_refers_57 rfl rfl rfl (by omega) ?_
              refine VW.goto (pc' := 6) d_Model_refers_60 rfl ?_
              refine VW.nrm ?_
              exact ih (c + 1) _ (by omega) (by omega) (by first | exact hi.keep c19 | exact orI.hit hq ⟨e31, c47⟩ | exact hi.no c19 (fun z => e31 z.1) | exact hi.no c19 (fun z => c47 z.2)) (fun h => by omega)
  refine VW.iconst (pc' := 1) d_Model_refers_0 rfl (by decide) ?_
  refine VW.istore (pc' := 3) d_Model_refers_1 rfl rfl ?_
  refine VW.iconst (pc' := 4) d_Model_refers_3 rfl (by decide) ?_
  refine VW.istore (pc' := 6) d_Model_refers_4 rfl rfl ?_
  refine VW.nrm ?_
  exact loop (I 201 t - 1).toNat 1 0 (by omega) (by omega) orI.z (fun h => ⟨rfl, rfl⟩)
end
