section
variable {K : KT} {P : PT} {J I : IT}
/-- a waiting transaction whose blocker has ended -/
def mFreed (I : IT) (j : Int) : Prop := I 221 j = 1 ∧ 2 ≤ I 221 (I 225 j)
noncomputable def mNext (I : IT) : Int := fs (mFreed I) 0 (I 100 19).toNat
theorem sp_Model_nextOf (hM : MW K P) (hb : MB I) (hw : ∀ j, 0 ≤ j → j < I 100 19 → I 221 j = 1 → 0 ≤ I 225 j ∧ I 225 j < 60) : Sp m_Model_nextOf false (rmv 0 0) (ex K P J I (.inl (some (vI (mNext I))))) K P J I [vR (some 100)] := by
  refine Sp.ofV (by decide) (Or.inr rfl) rfl ?_
  have n0 := hb.trn
  have loop : ∀ (n m : Nat) (k f : Int), k + 1 = n → n + m = I 100 19 → f = fs (mFreed I) n m → VW m_Model_nextOf false (rmv 0 0) (ex K P J I (.inl (some (vI (mNext I))))) K P J I 0 0 9 [(0, vR (some 100)), (1, vI f), (2, vI k)] [] := by
    intro n
    induction n with
    | zero =>
      intro m k f hk hm hf
      refine VW.iload_n (pc' := 10) d_Model_nextOf_9 rfl rfl ?_
      refine VW.if_lt (tgt := 50) (pc' := 13) d_Model_nextOf_10 rfl rfl (fun c10 => ?_) (fun c10 => ?_)
      · refine VW.iload_n (pc' := 51) d_Model_nextOf_50 rfl rfl ?_
        exact VW.iret d_Model_nextOf_51 rfl rfl (Nat.zero_le _) (Nat.zero_le _) (by unfold mNext; rw [show (I 100 19).toNat = m by omega]; rw [hf]; exact ex_rf)
      · exfalso; omega
    | succ n ih =>
      intro m k f hk hm hf
      have ek : k = n := by omega
      subst ek
      have w0 := hw n (by omega) (by omega)
      have en : ((n + 1 : Nat) : Int) = (n : Int) + 1 := by omega
      rw [en] at hf
      refine VW.iload_n (pc' := 10) d_Model_nextOf_9 rfl rfl ?_
      refine VW.if_lt (tgt := 50) (pc' := 13) d_Model_nextOf_10 rfl rfl (fun c10 => ?_) (fun c10 => ?_)
      · exfalso; omega
      · refine VW.aload_n (pc' := 14) d_Model_nextOf_13 rfl rfl ?_
        refine VW.gP (ci := 11) (T := T11) (N := 94) (k := 21) (k' := 21) (pc' := 17) d_Model_nextOf_14 rfl lk_Model_61 in11 rfl rfl rfl rfl (hM.k rfl) (hM.p (r := some 221) 21 rfl rfl) ?_
        refine VW.iload_n (pc' := 18) d_Model_nextOf_17 rfl rfl ?_
        refine VW.ild (pc' := 19) d_Model_nextOf_18 rfl (hM.k rfl) (by omega) (by omega) (by first | assumption | (simp [up2] <;> rfl) | rfl) ?_
        refine VW.iconst (pc' := 20) d_Model_nextOf_19 rfl (by decide) ?_
        refine VW.icmp_ne (tgt := 42) (pc' := 23) d_Model_nextOf_20 rfl rfl (fun c20 => ?_) (fun c20 => ?_)
        · refine VW.iload_n (pc' := 43) d_Model_nextOf_42 rfl rfl ?_
          refine VW.istore_n (pc' := 44) d_Model_nextOf_43 rfl rfl ?_
          refine VW.iinc (pc' := 47) d_Model_nextOf_44 rfl rfl rfl (by omega) ?_
          refine VW.goto (pc' := 9) d_Model_nextOf_47 rfl ?_
          refine VW.nrm ?_
          exact ih (m + 1) _ _ (by omega) (by omega) (by first | exact (fs_yes (g := mFreed I) ⟨c20, c35⟩).symm | (rw [hf]; exact (fs_no (g := mFreed I) (fun z => c20 z.1)).symm) | (rw [hf]; exact (fs_no (g := mFreed I) (fun z => by have := z.2; omega)).symm))
        · refine VW.aload_n (pc' := 24) d_Model_nextOf_23 rfl rfl ?_
          refine VW.gP (ci := 11) (T := T11) (N := 94) (k := 21) (k' := 21) (pc' := 27) d_Model_nextOf_24 rfl lk_Model_61 in11 rfl rfl rfl rfl (hM.k rfl) (hM.p (r := some 221) 21 rfl rfl) ?_
          refine VW.aload_n (pc' := 28) d_Model_nextOf_27 rfl rfl ?_
          refine VW.gP (ci := 11) (T := T11) (N := 94) (k := 25) (k' := 25) (pc' := 31) d_Model_nextOf_28 rfl lk_Model_73 in11 rfl rfl rfl rfl (hM.k rfl) (hM.p (r := some 225) 25 rfl rfl) ?_
          refine VW.iload_n (pc' := 32) d_Model_nextOf_31 rfl rfl ?_
          refine VW.ild (pc' := 33) d_Model_nextOf_32 rfl (hM.k rfl) (by omega) (by omega) (by first | assumption | (simp [up2] <;> rfl) | rfl) ?_
          refine VW.ild (pc' := 34) d_Model_nextOf_33 rfl (hM.k rfl) (by omega) (by omega) (by first | assumption | (simp [up2] <;> rfl) | rfl) ?_
          refine VW.iconst (pc' := 35) d_Model_nextOf_34 rfl (by decide) ?_
          refine VW.icmp_lt (tgt := 42) (pc' := 38) d_Model_nextOf_35 rfl rfl (fun c35 => ?_) (fun c35 => ?_)
          · refine VW.iload_n (pc' := 43) d_Model_nextOf_42 rfl rfl ?_
            refine VW.istore_n (pc' := 44) d_Model_nextOf_43 rfl rfl ?_
            refine VW.iinc (pc' := 47) d_Model_nextOf_44 rfl rfl rfl (by omega) ?_
            refine VW.goto (pc' := 9) d_Model_nextOf_47 rfl ?_
            refine VW.nrm ?_
            exact ih (m + 1) _ _ (by omega) (by omega) (by first | exact (fs_yes (g := mFreed I) ⟨c20, c35⟩).symm | (rw [hf]; exact (fs_no (g := mFreed I) (fun z => c20 z.1)).symm) | (rw [hf]; exact (fs_no (g := mFreed I) (fun z => by have := z.2; omega)).symm))
          · refine VW.iload_n (pc' := 39) d_Model_nextOf_38 rfl rfl ?_
            refine VW.goto (pc' := 43) d_Model_nextOf_39 rfl ?_
            refine VW.istore_n (pc' := 44) d_Model_nextOf_43 rfl rfl ?_
            refine VW.iinc (pc' := 47) d_Model_nextOf_44 rfl rfl rfl (by omega) ?_
            refine VW.goto (pc' := 9) d_Model_nextOf_47 rfl ?_
            refine VW.nrm ?_
            exact ih (m + 1) _ _ (by omega) (by omega) (by first | exact (fs_yes (g := mFreed I) ⟨c20, c35⟩).symm | (rw [hf]; exact (fs_no (g := mFreed I) (fun z => c20 z.1)).symm) | (rw [hf]; exact (fs_no (g := mFreed I) (fun z => by have := z.2; omega)).symm))
  refine VW.iconst (pc' := 1) d_Model_nextOf_0 rfl (by decide) ?_
  refine VW.istore_n (pc' := 2) d_Model_nextOf_1 rfl rfl ?_
  refine VW.aload_n (pc' := 3) d_Model_nextOf_2 rfl rfl ?_
  refine VW.gI (ci := 11) (T := T11) (N := 94) (k := 19) (k' := 19) (pc' := 6) d_Model_nextOf_3 rfl lk_Model_247 in11 rfl rfl rfl rfl (hM.k rfl) (by first | assumption | (simp [up2] <;> rfl) | rfl) ?_
  refine VW.iconst (pc' := 7) d_Model_nextOf_6 rfl (by decide) ?_
  refine VW.isub (pc' := 8) d_Model_nextOf_7 rfl (by omega) ?_
  refine VW.istore_n (pc' := 9) d_Model_nextOf_8 rfl rfl ?_
  refine VW.nrm ?_
  exact loop (I 100 19).toNat 0 _ _ (by omega) (by omega) rfl
def mFirst (I : IT) (w : Int) : Prop := ∀ j, 0 ≤ j → j < w → ¬ (I 246 j = 0 ∧ I 247 j = I 247 w ∧ I 248 j = I 248 w ∧ I 249 j = I 249 w)
theorem sp_Model_isFirstWrite {w : Int} (hM : MW K P) (h0 : 0 ≤ w ∧ w < 16384) : Sp m_Model_isFirstWrite false (rmv 0 0) (ex K P J I (.inl (some (vI (bI (mFirst I w)))))) K P J I [vR (some 100), vI w] := by
  refine Sp.ofV (by decide) (Or.inr rfl) rfl ?_
  have loop : ∀ (n : Nat) (k is : Int), k + n = w → 0 ≤ k → andI (fun j => ¬ (I 246 j = 0 ∧ I 247 j = I 247 w ∧ I 248 j = I 248 w ∧ I 249 j = I 249 w)) 0 k is → VW m_Model_isFirstWrite false (rmv 0 0) (ex K P J I (.inl (some (vI (bI (mFirst I w)))))) K P J I 0 0 4 [(0, vR (some 100)), (1, vI w), (2, vI is), (3, vI k)] [] := by
    intro n
    induction n with
    | zero =>
      intro k is hk hq hi
      refine VW.iload_n (pc' := 5) d_Model_isFirstWrite_4 rfl rfl ?_
      refine VW.iload_n (pc' := 6) d_Model_isFirstWrite_5 rfl rfl ?_
      refine VW.icmp_ge (tgt := 79) (pc' := 9) d_Model_isFirstWrite_6 rfl rfl (fun c6 => ?_) (fun c6 => ?_)
      · refine VW.iload_n (pc' := 80) d_Model_isFirstWrite_79 rfl rfl ?_
        exact VW.iret d_Model_isFirstWrite_80 rfl (narZ hi.h01) (Nat.zero_le _) (Nat.zero_le _) (by rw [show mFirst I w = (∀ j, 0 ≤ j → j < k → (fun j => ¬ (I 246 j = 0 ∧ I 247 j = I 247 w ∧ I 248 j = I 248 w ∧ I 249 j = I 249 w)) j) from by unfold mFirst; rw [show w = k by omega], ← hi.bI]; exact ex_rf)
      · exfalso; omega
    | succ n ih =>
      intro k is hk hq hi
      refine VW.iload_n (pc' := 5) d_Model_isFirstWrite_4 rfl rfl ?_
      refine VW.iload_n (pc' := 6) d_Model_isFirstWrite_5 rfl rfl ?_
      refine VW.icmp_ge (tgt := 79) (pc' := 9) d_Model_isFirstWrite_6 rfl rfl (fun c6 => ?_) (fun c6 => ?_)
      · exfalso; omega
      · refine VW.iload_n (pc' := 10) d_Model_isFirstWrite_9 rfl rfl ?_
        refine VW.if_eq (tgt := 71) (pc' := 13) d_Model_isFirstWrite_10 rfl rfl (fun c10 => ?_) (fun c10 => ?_)
        · try have e10 := bIe c10
          refine VW.iconst (pc' := 72) d_Model_isFirstWrite_71 rfl (by decide) ?_
          refine VW.istore_n (pc' := 73) d_Model_isFirstWrite_72 rfl rfl ?_
          refine VW.iinc (pc' := 76) d_Model_isFirstWrite_73 rfl rfl rfl (by omega) ?_
          refine VW.goto (pc' := 4) d_Model_isFirstWrite_76 rfl ?_
          refine VW.nrm ?_
          exact ih (k + 1) _ (by omega) (by omega) (by first | exact hi.keep c10 | exact hi.yes c10 (fun z => c19 z.1) | exact hi.yes c10 (fun z => c34 z.2.1) | exact hi.yes c10 (fun z => c49 z.2.2.1) | exact hi.yes c10 (fun z => c64 z.2.2.2) | exact andI.no hq (fun z => z ⟨c19, c34, c49, c64⟩))
        · try have e10 := bIn c10
          refine VW.aload_n (pc' := 14) d_Model_isFirstWrite_13 rfl rfl ?_
          refine VW.gP (ci := 11) (T := T11) (N := 94) (k := 46) (k' := 46) (pc' := 17) d_Model_isFirstWrite_14 rfl lk_Model_126 in11 rfl rfl rfl rfl (hM.k rfl) (hM.p (r := some 246) 46 rfl rfl) ?_
          refine VW.iload_n (pc' := 18) d_Model_isFirstWrite_17 rfl rfl ?_
          refine VW.ild (pc' := 19) d_Model_isFirstWrite_18 rfl (hM.k rfl) (by omega) (by omega) (by first | assumption | (simp [up2] <;> rfl) | rfl) ?_
          refine VW.if_ne (tgt := 67) (pc' := 22) d_Model_isFirstWrite_19 rfl rfl (fun c19 => ?_) (fun c19 => ?_)
          · try have e19 := bIn c19
            refine VW.iconst (pc' := 68) d_Model_isFirstWrite_67 rfl (by decide) ?_
            refine VW.goto (pc' := 72) d_Model_isFirstWrite_68 rfl ?_
            refine VW.istore_n (pc' := 73) d_Model_isFirstWrite_72 rfl rfl ?_
            refine VW.iinc (pc' := 76) d_Model_isFirstWrite_73 rfl rfl rfl (by omega) ?_
            refine VW.goto (pc' := 4) d_Model_isFirstWrite_76 rfl ?_
            refine VW.nrm ?_
            exact ih (k + 1) _ (by omega) (by omega) (by first | exact hi.keep c10 | exact hi.yes c10 (fun z => c19 z.1) | exact hi.yes c10 (fun z => c34 z.2.1) | exact hi.yes c10 (fun z => c49 z.2.2.1) | exact hi.yes c10 (fun z => c64 z.2.2.2) | exact andI.no hq (fun z => z ⟨c19, c34, c49, c64⟩))
          · try have e19 := bIe c19
            refine VW.aload_n (pc' := 23) d_Model_isFirstWrite_22 rfl rfl ?_
            refine VW.gP (ci := 11) (T := T11) (N := 94) (k := 47) (k' := 47) (pc' := 26) d_Model_isFirstWrite_23 rfl lk_Model_129 in11 rfl rfl rfl rfl (hM.k rfl) (hM.p (r := some 247) 47 rfl rfl) ?_
            refine VW.iload_n (pc' := 27) d_Model_isFirstWrite_26 rfl rfl ?_
            refine VW.ild (pc' := 28) d_Model_isFirstWrite_27 rfl (hM.k rfl) (by omega) (by omega) (by first | assumption | (simp [up2] <;> rfl) | rfl) ?_
            refine VW.aload_n (pc' := 29) d_Model_isFirstWrite_28 rfl rfl ?_
            refine VW.gP (ci := 11) (T := T11) (N := 94) (k := 47) (k' := 47) (pc' := 32) d_Model_isFirstWrite_29 rfl lk_Model_129 in11 rfl rfl rfl rfl (hM.k rfl) (hM.p (r := some 247) 47 rfl rfl) ?_
            refine VW.iload_n (pc' := 33) d_Model_isFirstWrite_32 rfl rfl ?_
            refine VW.ild (pc' := 34) d_Model_isFirstWrite_33 rfl (hM.k rfl) (by omega) (by omega) (by first | assumption | (simp [up2] <;> rfl) | rfl) ?_
            refine VW.icmp_ne (tgt := 67) (pc' := 37) d_Model_isFirstWrite_34 rfl rfl (fun c34 => ?_) (fun c34 => ?_)
            · refine VW.iconst (pc' := 68) d_Model_isFirstWrite_67 rfl (by decide) ?_
              refine VW.goto (pc' := 72) d_Model_isFirstWrite_68 rfl ?_
              refine VW.istore_n (pc' := 73) d_Model_isFirstWrite_72 rfl rfl ?_
              refine VW.iinc (pc' := 76) d_Model_isFirstWrite_73 rfl rfl rfl (by omega) ?_
              refine VW.goto (pc' := 4) d_Model_isFirstWrite_76 rfl ?_
              refine VW.nrm ?_
              exact ih (k + 1) _ (by omega) (by omega) (by first | exact hi.keep c10 | exact hi.yes c10 (fun z => c19 z.1) | exact hi.yes c10 (fun z => c34 z.2.1) | exact hi.yes c10 (fun z => c49 z.2.2.1) | exact hi.yes c10 (fun z => c64 z.2.2.2) | exact andI.no hq (fun z => z ⟨c19, c34, c49, c64⟩))
            · refine VW.aload_n (pc' := 38) d_Model_isFirstWrite_37 rfl rfl ?_
              refine VW.gP (ci := 11) (T := T11) (N := 94) (k := 48) (k' := 48) (pc' := 41) d_Model_isFirstWrite_38 rfl lk_Model_132 in11 rfl rfl rfl rfl (hM.k rfl) (hM.p (r := some 248) 48 rfl rfl) ?_
              refine VW.iload_n (pc' := 42) d_Model_isFirstWrite_41 rfl rfl ?_
              refine VW.ild (pc' := 43) d_Model_isFirstWrite_42 rfl (hM.k rfl) (by omega) (by omega) (by first | assumption | (simp [up2] <;> rfl) | rfl) ?_
              refine VW.aload_n (pc' := 44) d_Model_isFirstWrite_43 rfl rfl ?_
              refine VW.gP (ci := 11) (T := T11) (N := 94) (k := 48) (k' := 48) (pc' := 47) d_Model_isFirstWrite_44 rfl lk_Model_132 in11 rfl rfl rfl rfl (hM.k rfl) (hM.p (r := some 248) 48 rfl rfl) ?_
              refine VW.iload_n (pc' := 48) d_Model_isFirstWrite_47 rfl rfl ?_
              refine VW.ild (pc' := 49) d_Model_isFirstWrite_48 rfl (hM.k rfl) (by omega) (by omega) (by first | assumption | (simp [up2] <;> rfl) | rfl) ?_
              refine VW.icmp_ne (tgt := 67) (pc' := 52) d_Model_isFirstWrite_49 rfl rfl (fun c49 => ?_) (fun c49 => ?_)
              · refine VW.iconst (pc' := 68) d_Model_isFirstWrite_67 rfl (by decide) ?_
                refine VW.goto (pc' := 72) d_Model_isFirstWrite_68 rfl ?_
                refine VW.istore_n (pc' := 73) d_Model_isFirstWrite_72 rfl rfl ?_
                refine VW.iinc (pc' := 76) d_Model_isFirstWrite_73 rfl rfl rfl (by omega) ?_
                refine VW.goto (pc' := 4) d_Model_isFirstWrite_76 rfl ?_
                refine VW.nrm ?_
                exact ih (k + 1) _ (by omega) (by omega) (by first | exact hi.keep c10 | exact hi.yes c10 (fun z => c19 z.1) | exact hi.yes c10 (fun z => c34 z.2.1) | exact hi.yes c10 (fun z => c49 z.2.2.1) | exact hi.yes c10 (fun z => c64 z.2.2.2) | exact andI.no hq (fun z => z ⟨c19, c34, c49, c64⟩))
              · refine VW.aload_n (pc' := 53) d_Model_isFirstWrite_52 rfl rfl ?_
                refine VW.gP (ci := 11) (T := T11) (N := 94) (k := 49) (k' := 49) (pc' := 56) d_Model_isFirstWrite_53 rfl lk_Model_135 in11 rfl rfl rfl rfl (hM.k rfl) (hM.p (r := some 249) 49 rfl rfl) ?_
                refine VW.iload_n (pc' := 57) d_Model_isFirstWrite_56 rfl rfl ?_
                refine VW.ild (pc' := 58) d_Model_isFirstWrite_57 rfl (hM.k rfl) (by omega) (by omega) (by first | assumption | (simp [up2] <;> rfl) | rfl) ?_
                refine VW.aload_n (pc' := 59) d_Model_isFirstWrite_58 rfl rfl ?_
                refine VW.gP (ci := 11) (T := T11) (N := 94) (k := 49) (k' := 49) (pc' := 62) d_Model_isFirstWrite_59 rfl lk_Model_135 in11 rfl rfl rfl rfl (hM.k rfl) (hM.p (r := some 249) 49 rfl rfl) ?_
                refine VW.iload_n (pc' := 63) d_Model_isFirstWrite_62 rfl rfl ?_
                refine VW.ild (pc' := 64) d_Model_isFirstWrite_63 rfl (hM.k rfl) (by omega) (by omega) (by first | assumption | (simp [up2] <;> rfl) | rfl) ?_
                refine VW.icmp_eq (tgt := 71) (pc' := 67) d_Model_isFirstWrite_64 rfl rfl (fun c64 => ?_) (fun c64 => ?_)
                · refine VW.iconst (pc' := 72) d_Model_isFirstWrite_71 rfl (by decide) ?_
                  refine VW.istore_n (pc' := 73) d_Model_isFirstWrite_72 rfl rfl ?_
                  refine VW.iinc (pc' := 76) d_Model_isFirstWrite_73 rfl rfl rfl (by omega) ?_
                  refine VW.goto (pc' := 4) d_Model_isFirstWrite_76 rfl ?_
                  refine VW.nrm ?_
                  exact ih (k + 1) _ (by omega) (by omega) (by first | exact hi.keep c10 | exact hi.yes c10 (fun z => c19 z.1) | exact hi.yes c10 (fun z => c34 z.2.1) | exact hi.yes c10 (fun z => c49 z.2.2.1) | exact hi.yes c10 (fun z => c64 z.2.2.2) | exact andI.no hq (fun z => z ⟨c19, c34, c49, c64⟩))
                · refine VW.iconst (pc' := 68) d_Model_isFirstWrite_67 rfl (by decide) ?_
                  refine VW.goto (pc' := 72) d_Model_isFirstWrite_68 rfl ?_
                  refine VW.istore_n (pc' := 73) d_Model_isFirstWrite_72 rfl rfl ?_
                  refine VW.iinc (pc' := 76) d_Model_isFirstWrite_73 rfl rfl rfl (by omega) ?_
                  refine VW.goto (pc' := 4) d_Model_isFirstWrite_76 rfl ?_
                  refine VW.nrm ?_
                  exact ih (k + 1) _ (by omega) (by omega) (by first | exact hi.keep c10 | exact hi.yes c10 (fun z => c19 z.1) | exact hi.yes c10 (fun z => c34 z.2.1) | exact hi.yes c10 (fun z => c49 z.2.2.1) | exact hi.yes c10 (fun z => c64 z.2.2.2) | exact andI.no hq (fun z => z ⟨c19, c34, c49, c64⟩))
  refine VW.iconst (pc' := 1) d_Model_isFirstWrite_0 rfl (by decide) ?_
  refine VW.istore_n (pc' := 2) d_Model_isFirstWrite_1 rfl rfl ?_
  refine VW.iconst (pc' := 3) d_Model_isFirstWrite_2 rfl (by decide) ?_
  refine VW.istore_n (pc' := 4) d_Model_isFirstWrite_3 rfl rfl ?_
  refine VW.nrm ?_
  exact loop w.toNat 0 1 (by omega) (by omega) andI.z
/-- what a transaction of the reference read was written since it began -/
def mOldT (I : IT) (i t : Int) : Prop := I 236 (6 * i + t) ≠ 0 ∧ I 224 i < I 218 t
def mOldK (I : IT) (i j : Int) : Prop := (-1000 ≤ I 235 j ∧ I 235 j ≤ 1000) ∧ I 224 i < I 217 (2001 * I 234 j + I 235 j + 1000)
def mOld (I : IT) (i : Int) : Prop := (∃ t, 0 ≤ t ∧ t < 6 ∧ mOldT I i t) ∨ ∃ j, 2048 * i ≤ j ∧ j < 2048 * i + I 233 i ∧ mOldK I i j
theorem sp_Model_isOld {i : Int} (hM : MW K P) (hi : 0 ≤ i ∧ i < 60) (hn : 0 ≤ I 233 i ∧ I 233 i ≤ 2048) (hr : ∀ j, 0 ≤ I 234 j ∧ I 234 j < 6) : Sp m_Model_isOld false (rmv 2 45) (ex K P J I (.inl (some (vI (bI (mOld I i)))))) K P J I [vR (some 100), vI i] := by
  refine Sp.ofV (by decide) (Or.inr rfl) rfl ?_
  have loop2 : ∀ (n : Nat) (k is w : Int), k + n = 2048 * i + I 233 i → 2048 * i ≤ k → w = bI (∃ t, 0 ≤ t ∧ t < 6 ∧ mOldT I i t) → ((w = 1 ∧ is = 1) ∨ (w = 0 ∧ orI (mOldK I i) (2048 * i) k is)) → VW m_Model_isOld false (rmv 2 45) (ex K P J I (.inl (some (vI (bI (mOld I i)))))) K P J I 0 0 61 [(0, vR (some 100)), (1, vI i), (2, vI is), (3, vI k)] [] := by
    intro n
    induction n with
    | zero =>
      intro k is w hk hq hw hs
      have h01 : is = 0 ∨ is = 1 := hs.elim (fun q => Or.inr q.2) (fun q => q.2.h01)
      have e : bI (mOld I i) = is := by
        rw [orI_or hs]
        have : 2048 * i + I 233 i = k := by omega
        unfold mOld
        rw [this]
        apply bIc
        rw [hw]
        rcases bI_cases (∃ t, 0 ≤ t ∧ t < 6 ∧ mOldT I i t) with ⟨q1, q2⟩ | ⟨q1, q2⟩
        · rw [q2]; exact ⟨fun _ => Or.inl rfl, fun _ => Or.inl q1⟩
        · rw [q2]; exact ⟨fun z => z.elim (fun y => absurd y q1) Or.inr, fun z => z.elim (fun y => by cases y) Or.inr⟩
      refine VW.iload_n (pc' := 62) d_Model_isOld_61 rfl rfl ?_
      refine VW.sipush (pc' := 65) d_Model_isOld_62 rfl (by decide) ?_
      refine VW.iload_n (pc' := 66) d_Model_isOld_65 rfl rfl ?_
      refine VW.imul (pc' := 67) d_Model_isOld_66 rfl (by omega) ?_
      refine VW.aload_n (pc' := 68) d_Model_isOld_67 rfl rfl ?_
      refine VW.gP (ci := 11) (T := T11) (N := 94) (k := 33) (k' := 33) (pc' := 71) d_Model_isOld_68 rfl lk_Model_98 in11 rfl rfl rfl rfl (hM.k rfl) (hM.p (r := some 233) 33 rfl rfl) ?_
      refine VW.iload_n (pc' := 72) d_Model_isOld_71 rfl rfl ?_
      refine VW.ild (pc' := 73) d_Model_isOld_72 rfl (hM.k rfl) (by omega) (by omega) (by first | assumption | (simp [up2] <;> rfl) | rfl) ?_
      refine VW.iadd (pc' := 74) d_Model_isOld_73 rfl (by omega) ?_
      refine VW.icmp_ge (tgt := 140) (pc' := 77) d_Model_isOld_74 rfl rfl (fun c74 => ?_) (fun c74 => ?_)
      · refine VW.iload_n (pc' := 141) d_Model_isOld_140 rfl rfl ?_
        exact VW.iret d_Model_isOld_141 rfl (narZ h01) (Nat.zero_le _) (Nat.zero_le _) (by rw [e]; exact ex_rf)
      · exfalso; omega
    | succ n ih =>
      intro k is w hk hq hw hs
      have r0 := hr k
      refine VW.iload_n (pc' := 62) d_Model_isOld_61 rfl rfl ?_
      refine VW.sipush (pc' := 65) d_Model_isOld_62 rfl (by decide) ?_
      refine VW.iload_n (pc' := 66) d_Model_isOld_65 rfl rfl ?_
      refine VW.imul (pc' := 67) d_Model_isOld_66 rfl (by omega) ?_
      refine VW.aload_n (pc' := 68) d_Model_isOld_67 rfl rfl ?_
      refine VW.gP (ci := 11) (T := T11) (N := 94) (k := 33) (k' := 33) (pc' := 71) d_Model_isOld_68 rfl lk_Model_98 in11 rfl rfl rfl rfl (hM.k rfl) (hM.p (r := some 233) 33 rfl rfl) ?_
      refine VW.iload_n (pc' := 72) d_Model_isOld_71 rfl rfl ?_
      refine VW.ild (pc' := 73) d_Model_isOld_72 rfl (hM.k rfl) (by omega) (by omega) (by first | assumption | (simp [up2] <;> rfl) | rfl) ?_
      refine VW.iadd (pc' := 74) d_Model_isOld_73 rfl (by omega) ?_
      refine VW.icmp_ge (tgt := 140) (pc' := 77) d_Model_isOld_74 rfl rfl (fun c74 => ?_) (fun c74 => ?_)
      · exfalso; omega
      · refine VW.iload_n (pc' := 78) d_Model_isOld_77 rfl rfl ?_
        refine VW.if_ne (tgt := 128) (pc' := 81) d_Model_isOld_78 rfl rfl (fun c78 => ?_) (fun c78 => ?_)
        · try have e78 := bIn c78
          refine VW.iconst (pc' := 129) d_Model_isOld_128 rfl (by decide) ?_
          refine VW.goto (pc' := 133) d_Model_isOld_129 rfl ?_
          refine VW.istore_n (pc' := 134) d_Model_isOld_133 rfl rfl ?_
          refine VW.iinc (pc' := 137) d_Model_isOld_134 rfl rfl rfl (by omega) ?_
          refine VW.goto (pc' := 61) d_Model_isOld_137 rfl ?_
          refine VW.nrm ?_
          exact ih (k + 1) _ w (by omega) (by omega) hw (by
            rcases hs with ⟨s1, s2⟩ | ⟨s1, s2⟩
            · exact Or.inl ⟨s1, by first | rfl | (exfalso; omega)⟩
            · refine Or.inr ⟨s1, ?_⟩
              first | exact s2.keep c78 | exact orI.hit hq ⟨e90, c125⟩ | exact s2.no c78 (fun z => e90 z.1) | exact s2.no c78 (fun z => by have := z.2; omega))
        · try have e78 := bIe c78
          refine VW.aload_n (pc' := 82) d_Model_isOld_81 rfl rfl ?_
          refine VW.gP (ci := 11) (T := T11) (N := 94) (k := 35) (k' := 35) (pc' := 85) d_Model_isOld_82 rfl lk_Model_105 in11 rfl rfl rfl rfl (hM.k rfl) (hM.p (r := some 235) 35 rfl rfl) ?_
          refine VW.iload_n (pc' := 86) d_Model_isOld_85 rfl rfl ?_
          refine VW.ild (pc' := 87) d_Model_isOld_86 rfl (hM.k rfl) (by omega) (by omega) (by first | assumption | (simp [up2] <;> rfl) | rfl) ?_
          refine VW.cS (pc' := 90) d_Model_isOld_87 rfl ms_Model_isValue lk_Model_267 rfl rfl rfl (Nat.le_refl _) (Nat.le_refl _) (sp_Model_isValue) rfl rfl ?_
          refine VW.if_eq (tgt := 132) (pc' := 93) d_Model_isOld_90 rfl rfl (fun c90 => ?_) (fun c90 => ?_)
          · try have e90 := bIe c90
            refine VW.iconst (pc' := 133) d_Model_isOld_132 rfl (by decide) ?_
            refine VW.istore_n (pc' := 134) d_Model_isOld_133 rfl rfl ?_
            refine VW.iinc (pc' := 137) d_Model_isOld_134 rfl rfl rfl (by omega) ?_
            refine VW.goto (pc' := 61) d_Model_isOld_137 rfl ?_
            refine VW.nrm ?_
            exact ih (k + 1) _ w (by omega) (by omega) hw (by
              rcases hs with ⟨s1, s2⟩ | ⟨s1, s2⟩
              · exact Or.inl ⟨s1, by first | rfl | (exfalso; omega)⟩
              · refine Or.inr ⟨s1, ?_⟩
                first | exact s2.keep c78 | exact orI.hit hq ⟨e90, c125⟩ | exact s2.no c78 (fun z => e90 z.1) | exact s2.no c78 (fun z => by have := z.2; omega))
          · try have e90 := bIn c90
            refine VW.aload_n (pc' := 94) d_Model_isOld_93 rfl rfl ?_
            refine VW.gP (ci := 11) (T := T11) (N := 94) (k := 17) (k' := 17) (pc' := 97) d_Model_isOld_94 rfl lk_Model_52 in11 rfl rfl rfl rfl (hM.k rfl) (hM.p (r := some 217) 17 rfl rfl) ?_
            refine VW.sipush (pc' := 100) d_Model_isOld_97 rfl (by decide) ?_
            refine VW.aload_n (pc' := 101) d_Model_isOld_100 rfl rfl ?_
            refine VW.gP (ci := 11) (T := T11) (N := 94) (k := 34) (k' := 34) (pc' := 104) d_Model_isOld_101 rfl lk_Model_102 in11 rfl rfl rfl rfl (hM.k rfl) (hM.p (r := some 234) 34 rfl rfl) ?_
            refine VW.iload_n (pc' := 105) d_Model_isOld_104 rfl rfl ?_
            refine VW.ild (pc' := 106) d_Model_isOld_105 rfl (hM.k rfl) (by omega) (by omega) (by first | assumption | (simp [up2] <;> rfl) | rfl) ?_
            refine VW.imul (pc' := 107) d_Model_isOld_106 rfl (by omega) ?_
            refine VW.aload_n (pc' := 108) d_Model_isOld_107 rfl rfl ?_
            refine VW.gP (ci := 11) (T := T11) (N := 94) (k := 35) (k' := 35) (pc' := 111) d_Model_isOld_108 rfl lk_Model_105 in11 rfl rfl rfl rfl (hM.k rfl) (hM.p (r := some 235) 35 rfl rfl) ?_
            refine VW.iload_n (pc' := 112) d_Model_isOld_111 rfl rfl ?_
            refine VW.ild (pc' := 113) d_Model_isOld_112 rfl (hM.k rfl) (by omega) (by omega) (by first | assumption | (simp [up2] <;> rfl) | rfl) ?_
            refine VW.iadd (pc' := 114) d_Model_isOld_113 rfl (by omega) ?_
            refine VW.sipush (pc' := 117) d_Model_isOld_114 rfl (by decide) ?_
            refine VW.iadd (pc' := 118) d_Model_isOld_117 rfl (by omega) ?_
            refine VW.ild (pc' := 119) d_Model_isOld_118 rfl (hM.k rfl) (by omega) (by omega) (by first | assumption | (simp [up2] <;> rfl) | rfl) ?_
            refine VW.aload_n (pc' := 120) d_Model_isOld_119 rfl rfl ?_
            refine VW.gP (ci := 11) (T := T11) (N := 94) (k := 24) (k' := 24) (pc' := 123) d_Model_isOld_120 rfl lk_Model_70 in11 rfl rfl rfl rfl (hM.k rfl) (hM.p (r := some 224) 24 rfl rfl) ?_
            refine VW.iload_n (pc' := 124) d_Model_isOld_123 rfl rfl ?_
            refine VW.ild (pc' := 125) d_Model_isOld_124 rfl (hM.k rfl) (by omega) (by omega) (by first | assumption | (simp [up2] <;> rfl) | rfl) ?_
            refine VW.icmp_le (tgt := 132) (pc' := 128) d_Model_isOld_125 rfl rfl (fun c125 => ?_) (fun c125 => ?_)
            · refine VW.iconst (pc' := 133) d_Model_isOld_132 rfl (by decide) ?_
              refine VW.istore_n (pc' := 134) d_Model_isOld_133 rfl rfl ?_
              refine VW.iinc (pc' := 137) d_Model_isOld_134 rfl rfl rfl (by omega) ?_
              refine VW.goto (pc' := 61) d_Model_isOld_137 rfl ?_
              refine VW.nrm ?_
              exact ih (k + 1) _ w (by omega) (by omega) hw (by
                rcases hs with ⟨s1, s2⟩ | ⟨s1, s2⟩
                · exact Or.inl ⟨s1, by first | rfl | (exfalso; omega)⟩
                · refine Or.inr ⟨s1, ?_⟩
                  first | exact s2.keep c78 | exact orI.hit hq ⟨e90, c125⟩ | exact s2.no c78 (fun z => e90 z.1) | exact s2.no c78 (fun z => by have := z.2; omega))
            · refine VW.iconst (pc' := 129) d_Model_isOld_128 rfl (by decide) ?_
              refine VW.goto (pc' := 133) d_Model_isOld_129 rfl ?_
              refine VW.istore_n (pc' := 134) d_Model_isOld_133 rfl rfl ?_
              refine VW.iinc (pc' := 137) d_Model_isOld_134 rfl rfl rfl (by omega) ?_
              refine VW.goto (pc' := 61) d_Model_isOld_137 rfl ?_
              refine VW.nrm ?_
              exact ih (k + 1) _ w (by omega) (by omega) hw (by
                rcases hs with ⟨s1, s2⟩ | ⟨s1, s2⟩
                · exact Or.inl ⟨s1, by first | rfl | (exfalso; omega)⟩
                · refine Or.inr ⟨s1, ?_⟩
                  first | exact s2.keep c78 | exact orI.hit hq ⟨e90, c125⟩ | exact s2.no c78 (fun z => e90 z.1) | exact s2.no c78 (fun z => by have := z.2; omega))
  have loop1 : ∀ (n : Nat) (k is : Int), k + n = 6 → 0 ≤ k → orI (mOldT I i) 0 k is → VW m_Model_isOld false (rmv 2 45) (ex K P J I (.inl (some (vI (bI (mOld I i)))))) K P J I 0 0 4 [(0, vR (some 100)), (1, vI i), (2, vI is), (3, vI k)] [] := by
    intro n
    induction n with
    | zero =>
      intro k is hk hq hs
      have e := hs.bI
      rw [show k = 6 by omega] at e
      refine VW.iload_n (pc' := 5) d_Model_isOld_4 rfl rfl ?_
      refine VW.bipush (pc' := 7) d_Model_isOld_5 rfl (by decide) ?_
      refine VW.icmp_ge (tgt := 55) (pc' := 10) d_Model_isOld_7 rfl rfl (fun c7 => ?_) (fun c7 => ?_)
      · refine VW.sipush (pc' := 58) d_Model_isOld_55 rfl (by decide) ?_
        refine VW.iload_n (pc' := 59) d_Model_isOld_58 rfl rfl ?_
        refine VW.imul (pc' := 60) d_Model_isOld_59 rfl (by omega) ?_
        refine VW.istore_n (pc' := 61) d_Model_isOld_60 rfl rfl ?_
        refine VW.nrm ?_
        exact loop2 (I 233 i).toNat (2048 * i) is is (by omega) (by omega) e (by rcases hs.h01 with z | z; exact Or.inr ⟨z, by rw [z]; exact orI.z⟩; exact Or.inl ⟨z, z⟩)
      · exfalso; omega
    | succ n ih =>
      intro k is hk hq hs
      refine VW.iload_n (pc' := 5) d_Model_isOld_4 rfl rfl ?_
      refine VW.bipush (pc' := 7) d_Model_isOld_5 rfl (by decide) ?_
      refine VW.icmp_ge (tgt := 55) (pc' := 10) d_Model_isOld_7 rfl rfl (fun c7 => ?_) (fun c7 => ?_)
      · exfalso; omega
      · refine VW.iload_n (pc' := 11) d_Model_isOld_10 rfl rfl ?_
        refine VW.if_ne (tgt := 43) (pc' := 14) d_Model_isOld_11 rfl rfl (fun c11 => ?_) (fun c11 => ?_)
        · try have e11 := bIn c11
          refine VW.iconst (pc' := 44) d_Model_isOld_43 rfl (by decide) ?_
          refine VW.goto (pc' := 48) d_Model_isOld_44 rfl ?_
          refine VW.istore_n (pc' := 49) d_Model_isOld_48 rfl rfl ?_
          refine VW.iinc (pc' := 52) d_Model_isOld_49 rfl rfl rfl (by omega) ?_
          refine VW.goto (pc' := 4) d_Model_isOld_52 rfl ?_
          refine VW.nrm ?_
          exact ih (k + 1) _ (by omega) (by omega) (by first | exact hs.keep c11 | exact orI.hit hq ⟨c25, c40⟩ | exact hs.no c11 (fun z => z.1 c25) | exact hs.no c11 (fun z => by have := z.2; omega))
        · try have e11 := bIe c11
          refine VW.aload_n (pc' := 15) d_Model_isOld_14 rfl rfl ?_
          refine VW.gP (ci := 11) (T := T11) (N := 94) (k := 36) (k' := 36) (pc' := 18) d_Model_isOld_15 rfl lk_Model_108 in11 rfl rfl rfl rfl (hM.k rfl) (hM.p (r := some 236) 36 rfl rfl) ?_
          refine VW.bipush (pc' := 20) d_Model_isOld_18 rfl (by decide) ?_
          refine VW.iload_n (pc' := 21) d_Model_isOld_20 rfl rfl ?_
          refine VW.imul (pc' := 22) d_Model_isOld_21 rfl (by omega) ?_
          refine VW.iload_n (pc' := 23) d_Model_isOld_22 rfl rfl ?_
          refine VW.iadd (pc' := 24) d_Model_isOld_23 rfl (by omega) ?_
          refine VW.zld (pc' := 25) d_Model_isOld_24 rfl (hM.k rfl) (by omega) (by omega) (by first | assumption | (simp [up2] <;> rfl) | rfl) ?_
          refine VW.if_eq (tgt := 47) (pc' := 28) d_Model_isOld_25 rfl rfl (fun c25 => ?_) (fun c25 => ?_)
          · try have e25 := bIe c25
            refine VW.iconst (pc' := 48) d_Model_isOld_47 rfl (by decide) ?_
            refine VW.istore_n (pc' := 49) d_Model_isOld_48 rfl rfl ?_
            refine VW.iinc (pc' := 52) d_Model_isOld_49 rfl rfl rfl (by omega) ?_
            refine VW.goto (pc' := 4) d_Model_isOld_52 rfl ?_
            refine VW.nrm ?_
            exact ih (k + 1) _ (by omega) (by omega) (by first | exact hs.keep c11 | exact orI.hit hq ⟨c25, c40⟩ | exact hs.no c11 (fun z => z.1 c25) | exact hs.no c11 (fun z => by have := z.2; omega))
          · try have e25 := bIn c25
            refine VW.aload_n (pc' := 29) d_Model_isOld_28 rfl rfl ?_
            refine VW.gP (ci := 11) (T := T11) (N := 94) (k := 18) (k' := 18) (pc' := 32) d_Model_isOld_29 rfl lk_Model_55 in11 rfl rfl rfl rfl (hM.k rfl) (hM.p (r := some 218) 18 rfl rfl) ?_
            refine VW.iload_n (pc' := 33) d_Model_isOld_32 rfl rfl ?_
            refine VW.ild (pc' := 34) d_Model_isOld_33 rfl (hM.k rfl) (by omega) (by omega) (by first | assumption | (simp [up2] <;> rfl) | rfl) ?_
            refine VW.aload_n (pc' := 35) d_Model_isOld_34 rfl rfl ?_
            refine VW.gP (ci := 11) (T := T11) (N := 94) (k := 24) (k' := 24) (pc' := 38) d_Model_isOld_35 rfl lk_Model_70 in11 rfl rfl rfl rfl (hM.k rfl) (hM.p (r := some 224) 24 rfl rfl) ?_
            refine VW.iload_n (pc' := 39) d_Model_isOld_38 rfl rfl ?_
            refine VW.ild (pc' := 40) d_Model_isOld_39 rfl (hM.k rfl) (by omega) (by omega) (by first | assumption | (simp [up2] <;> rfl) | rfl) ?_
            refine VW.icmp_le (tgt := 47) (pc' := 43) d_Model_isOld_40 rfl rfl (fun c40 => ?_) (fun c40 => ?_)
            · refine VW.iconst (pc' := 48) d_Model_isOld_47 rfl (by decide) ?_
              refine VW.istore_n (pc' := 49) d_Model_isOld_48 rfl rfl ?_
              refine VW.iinc (pc' := 52) d_Model_isOld_49 rfl rfl rfl (by omega) ?_
              refine VW.goto (pc' := 4) d_Model_isOld_52 rfl ?_
              refine VW.nrm ?_
              exact ih (k + 1) _ (by omega) (by omega) (by first | exact hs.keep c11 | exact orI.hit hq ⟨c25, c40⟩ | exact hs.no c11 (fun z => z.1 c25) | exact hs.no c11 (fun z => by have := z.2; omega))
            · refine VW.iconst (pc' := 44) d_Model_isOld_43 rfl (by decide) ?_
              refine VW.goto (pc' := 48) d_Model_isOld_44 rfl ?_
              refine VW.istore_n (pc' := 49) d_Model_isOld_48 rfl rfl ?_
              refine VW.iinc (pc' := 52) d_Model_isOld_49 rfl rfl rfl (by omega) ?_
              refine VW.goto (pc' := 4) d_Model_isOld_52 rfl ?_
              refine VW.nrm ?_
              exact ih (k + 1) _ (by omega) (by omega) (by first | exact hs.keep c11 | exact orI.hit hq ⟨c25, c40⟩ | exact hs.no c11 (fun z => z.1 c25) | exact hs.no c11 (fun z => by have := z.2; omega))
  refine VW.iconst (pc' := 1) d_Model_isOld_0 rfl (by decide) ?_
  refine VW.istore_n (pc' := 2) d_Model_isOld_1 rfl rfl ?_
  refine VW.iconst (pc' := 3) d_Model_isOld_2 rfl (by decide) ?_
  refine VW.istore_n (pc' := 4) d_Model_isOld_3 rfl rfl ?_
  refine VW.nrm ?_
  exact loop1 6 0 0 (by omega) (by omega) orI.z
noncomputable def mValue (I : IT) (s t key c : Int) : Int := if key = -2147483648 ∨ mfind I s t key = -1 then -2147483648 else I 215 (mrow s t (mfind I s t key) + c)
theorem mValue_1 {s t key c : Int} (h : key = -2147483648 ∨ mfind I s t key = -1) : mValue I s t key c = -2147483648 := if_pos h
theorem mValue_0 {s t key c : Int} (h : ¬ (key = -2147483648 ∨ mfind I s t key = -1)) : mValue I s t key c = I 215 (mrow s t (mfind I s t key) + c) := if_neg h
theorem sp_Model_valueAt {s t key c : Int} (hM : MW K P) (hb : MB I) (hs : 0 ≤ s ∧ s ≤ 4) (ht : 0 ≤ t ∧ t < 6) (hc : 0 ≤ c ∧ c < 4) : Sp m_Model_valueAt false (rmv 2 48) (ex K P J I (.inl (some (vI (mValue I s t key c))))) K P J I [vR (some 100), vI s, vI t, vI key, vI c] := by
  refine Sp.ofV (by decide) (Or.inr rfl) rfl ?_
  have o0 := hb.row (6 * s + t)
  have m0 := mfind_rg I s t key
  refine VW.iload_n (pc' := 1) d_Model_valueAt_0 rfl rfl ?_
  refine VW.ldc (pc' := 3) (z := -2147483648) d_Model_valueAt_1 rfl lk_Model_246 (by decide) (by decide) ?_
  refine VW.icmp_ne (tgt := 10) (pc' := 6) d_Model_valueAt_3 rfl rfl (fun c3 => ?_) (fun c3 => ?_)
  · refine VW.aload_n (pc' := 11) d_Model_valueAt_10 rfl rfl ?_
    refine VW.iload_n (pc' := 12) d_Model_valueAt_11 rfl rfl ?_
    refine VW.iload_n (pc' := 13) d_Model_valueAt_12 rfl rfl ?_
    refine VW.iload_n (pc' := 14) d_Model_valueAt_13 rfl rfl ?_
    refine VW.cV (ci := 11) (T := T11) (N := 94) (pc' := 17) d_Model_valueAt_14 rfl mv_Model_find lk_Model_305 rfl (hM.k rfl) rfl rfl rfl (Nat.le_refl _) (Nat.le_refl _) (sp_Model_find hM hs ht (by omega)) rfl rfl ?_
    refine VW.istore (pc' := 19) d_Model_valueAt_17 rfl rfl ?_
    refine VW.iload (pc' := 21) d_Model_valueAt_19 rfl rfl ?_
    refine VW.iconst (pc' := 22) d_Model_valueAt_21 rfl (by decide) ?_
    refine VW.icmp_ne (tgt := 30) (pc' := 25) d_Model_valueAt_22 rfl rfl (fun c22 => ?_) (fun c22 => ?_)
    · refine VW.aload_n (pc' := 31) d_Model_valueAt_30 rfl rfl ?_
      refine VW.gP (ci := 11) (T := T11) (N := 94) (k := 15) (k' := 15) (pc' := 34) d_Model_valueAt_31 rfl lk_Model_49 in11 rfl rfl rfl rfl (hM.k rfl) (hM.p (r := some 215) 15 rfl rfl) ?_
      refine VW.iload_n (pc' := 35) d_Model_valueAt_34 rfl rfl ?_
      refine VW.iload_n (pc' := 36) d_Model_valueAt_35 rfl rfl ?_
      refine VW.iload (pc' := 38) d_Model_valueAt_36 rfl rfl ?_
      refine VW.iload (pc' := 40) d_Model_valueAt_38 rfl rfl ?_
      refine VW.cS (pc' := 43) d_Model_valueAt_40 rfl ms_Model_cell lk_Model_273 rfl rfl rfl (Nat.le_refl _) (Nat.le_refl _) (sp_Model_cell (by omega) (by omega) (by omega) (by omega)) rfl rfl ?_
      refine VW.ild (pc' := 44) d_Model_valueAt_43 rfl (hM.k rfl) (by omega) (by omega) (by first | assumption | (simp [up2] <;> rfl) | rfl) ?_
      exact VW.iret d_Model_valueAt_44 rfl rfl (Nat.zero_le _) (Nat.zero_le _) (by first | (rw [mValue_1 (by omega)]; exact ex_rf) | (rw [mValue_0 (by omega)]; exact ex_rf))
    · refine VW.ldc (pc' := 27) (z := -2147483648) d_Model_valueAt_25 rfl lk_Model_246 (by decide) (by decide) ?_
      refine VW.goto (pc' := 44) d_Model_valueAt_27 rfl ?_
      exact VW.iret d_Model_valueAt_44 rfl rfl (Nat.zero_le _) (Nat.zero_le _) (by first | (rw [mValue_1 (by omega)]; exact ex_rf) | (rw [mValue_0 (by omega)]; exact ex_rf))
  · refine VW.iconst (pc' := 7) d_Model_valueAt_6 rfl (by decide) ?_
    refine VW.goto (pc' := 17) d_Model_valueAt_7 rfl ?_
    refine VW.istore (pc' := 19) d_Model_valueAt_17 rfl rfl ?_
    refine VW.iload (pc' := 21) d_Model_valueAt_19 rfl rfl ?_
    refine VW.iconst (pc' := 22) d_Model_valueAt_21 rfl (by decide) ?_
    refine VW.icmp_ne (tgt := 30) (pc' := 25) d_Model_valueAt_22 rfl rfl (fun c22 => absurd c22 (by decide)) (fun _ => ?_)
    refine VW.ldc (pc' := 27) (z := -2147483648) d_Model_valueAt_25 rfl lk_Model_246 (by decide) (by decide) ?_
    refine VW.goto (pc' := 44) d_Model_valueAt_27 rfl ?_
    exact VW.iret d_Model_valueAt_44 rfl rfl (Nat.zero_le _) (Nat.zero_le _) (by first | (rw [mValue_1 (by omega)]; exact ex_rf) | (rw [mValue_0 (by omega)]; exact ex_rf))
theorem sp_Model_hasRecord {i w : Int} (hM : MW K P) (h0 : 0 ≤ I 100 44 ∧ I 100 44 ≤ 16384) : Sp m_Model_hasRecord false (rmv 0 0) (ex K P J I (.inl (some (vI (bI (∃ j, 0 ≤ j ∧ j < I 100 44 ∧ (I 246 j = w ∧ I 247 j = i))))))) K P J I [vR (some 100), vI i, vI w] := by
  refine Sp.ofV (by decide) (Or.inr rfl) rfl ?_
  have loop : ∀ (n : Nat) (k is : Int), k + n = I 100 44 → 0 ≤ k → orI (fun j => I 246 j = w ∧ I 247 j = i) 0 k is → VW m_Model_hasRecord false (rmv 0 0) (ex K P J I (.inl (some (vI (bI (∃ j, 0 ≤ j ∧ j < I 100 44 ∧ (I 246 j = w ∧ I 247 j = i))))))) K P J I 0 0 5 [(0, vR (some 100)), (1, vI i), (2, vI w), (3, vI is), (4, vI k)] [] := by
    intro n
    induction n with
    | zero =>
      intro k is hk hq hi
      refine VW.iload (pc' := 7) d_Model_hasRecord_5 rfl rfl ?_
      refine VW.aload_n (pc' := 8) d_Model_hasRecord_7 rfl rfl ?_
      refine VW.gI (ci := 11) (T := T11) (N := 94) (k := 44) (k' := 44) (pc' := 11) d_Model_hasRecord_8 rfl lk_Model_294 in11 rfl rfl rfl rfl (hM.k rfl) (by first | assumption | (simp [up2] <;> rfl) | rfl) ?_
      refine VW.icmp_ge (tgt := 52) (pc' := 14) d_Model_hasRecord_11 rfl rfl (fun c11 => ?_) (fun c11 => ?_)
      · refine VW.iload_n (pc' := 53) d_Model_hasRecord_52 rfl rfl ?_
        exact VW.iret d_Model_hasRecord_53 rfl (narZ hi.h01) (Nat.zero_le _) (Nat.zero_le _) (by rw [show I 100 44 = k by omega, ← hi.bI]; exact ex_rf)
      · exfalso; omega
    | succ n ih =>
      intro k is hk hq hi
      refine VW.iload (pc' := 7) d_Model_hasRecord_5 rfl rfl ?_
      refine VW.aload_n (pc' := 8) d_Model_hasRecord_7 rfl rfl ?_
      refine VW.gI (ci := 11) (T := T11) (N := 94) (k := 44) (k' := 44) (pc' := 11) d_Model_hasRecord_8 rfl lk_Model_294 in11 rfl rfl rfl rfl (hM.k rfl) (by first | assumption | (simp [up2] <;> rfl) | rfl) ?_
      refine VW.icmp_ge (tgt := 52) (pc' := 14) d_Model_hasRecord_11 rfl rfl (fun c11 => ?_) (fun c11 => ?_)
      · exfalso; omega
      · refine VW.iload_n (pc' := 15) d_Model_hasRecord_14 rfl rfl ?_
        refine VW.if_ne (tgt := 40) (pc' := 18) d_Model_hasRecord_15 rfl rfl (fun c15 => ?_) (fun c15 => ?_)
        · try have e15 := bIn c15
          refine VW.iconst (pc' := 41) d_Model_hasRecord_40 rfl (by decide) ?_
          refine VW.goto (pc' := 45) d_Model_hasRecord_41 rfl ?_
          refine VW.istore_n (pc' := 46) d_Model_hasRecord_45 rfl rfl ?_
          refine VW.iinc (pc' := 49) d_Model_hasRecord_46 rfl rfl rfl (by omega) ?_
          refine VW.goto (pc' := 5) d_Model_hasRecord_49 rfl ?_
          refine VW.nrm ?_
          exact ih (k + 1) _ (by omega) (by omega) (by first | exact hi.keep c15 | exact orI.hit hq ⟨c26, c37⟩ | exact hi.no c15 (fun z => c26 z.1) | exact hi.no c15 (fun z => c37 z.2))
        · try have e15 := bIe c15
          refine VW.aload_n (pc' := 19) d_Model_hasRecord_18 rfl rfl ?_
          refine VW.gP (ci := 11) (T := T11) (N := 94) (k := 46) (k' := 46) (pc' := 22) d_Model_hasRecord_19 rfl lk_Model_126 in11 rfl rfl rfl rfl (hM.k rfl) (hM.p (r := some 246) 46 rfl rfl) ?_
          refine VW.iload (pc' := 24) d_Model_hasRecord_22 rfl rfl ?_
          refine VW.ild (pc' := 25) d_Model_hasRecord_24 rfl (hM.k rfl) (by omega) (by omega) (by first | assumption | (simp [up2] <;> rfl) | rfl) ?_
          refine VW.iload_n (pc' := 26) d_Model_hasRecord_25 rfl rfl ?_
          refine VW.icmp_ne (tgt := 44) (pc' := 29) d_Model_hasRecord_26 rfl rfl (fun c26 => ?_) (fun c26 => ?_)
          · refine VW.iconst (pc' := 45) d_Model_hasRecord_44 rfl (by decide) ?_
            refine VW.istore_n (pc' := 46) d_Model_hasRecord_45 rfl rfl ?_
            refine VW.iinc (pc' := 49) d_Model_hasRecord_46 rfl rfl rfl (by omega) ?_
            refine VW.goto (pc' := 5) d_Model_hasRecord_49 rfl ?_
            refine VW.nrm ?_
            exact ih (k + 1) _ (by omega) (by omega) (by first | exact hi.keep c15 | exact orI.hit hq ⟨c26, c37⟩ | exact hi.no c15 (fun z => c26 z.1) | exact hi.no c15 (fun z => c37 z.2))
          · refine VW.aload_n (pc' := 30) d_Model_hasRecord_29 rfl rfl ?_
            refine VW.gP (ci := 11) (T := T11) (N := 94) (k := 47) (k' := 47) (pc' := 33) d_Model_hasRecord_30 rfl lk_Model_129 in11 rfl rfl rfl rfl (hM.k rfl) (hM.p (r := some 247) 47 rfl rfl) ?_
            refine VW.iload (pc' := 35) d_Model_hasRecord_33 rfl rfl ?_
            refine VW.ild (pc' := 36) d_Model_hasRecord_35 rfl (hM.k rfl) (by omega) (by omega) (by first | assumption | (simp [up2] <;> rfl) | rfl) ?_
            refine VW.iload_n (pc' := 37) d_Model_hasRecord_36 rfl rfl ?_
            refine VW.icmp_ne (tgt := 44) (pc' := 40) d_Model_hasRecord_37 rfl rfl (fun c37 => ?_) (fun c37 => ?_)
            · refine VW.iconst (pc' := 45) d_Model_hasRecord_44 rfl (by decide) ?_
              refine VW.istore_n (pc' := 46) d_Model_hasRecord_45 rfl rfl ?_
              refine VW.iinc (pc' := 49) d_Model_hasRecord_46 rfl rfl rfl (by omega) ?_
              refine VW.goto (pc' := 5) d_Model_hasRecord_49 rfl ?_
              refine VW.nrm ?_
              exact ih (k + 1) _ (by omega) (by omega) (by first | exact hi.keep c15 | exact orI.hit hq ⟨c26, c37⟩ | exact hi.no c15 (fun z => c26 z.1) | exact hi.no c15 (fun z => c37 z.2))
            · refine VW.iconst (pc' := 41) d_Model_hasRecord_40 rfl (by decide) ?_
              refine VW.goto (pc' := 45) d_Model_hasRecord_41 rfl ?_
              refine VW.istore_n (pc' := 46) d_Model_hasRecord_45 rfl rfl ?_
              refine VW.iinc (pc' := 49) d_Model_hasRecord_46 rfl rfl rfl (by omega) ?_
              refine VW.goto (pc' := 5) d_Model_hasRecord_49 rfl ?_
              refine VW.nrm ?_
              exact ih (k + 1) _ (by omega) (by omega) (by first | exact hi.keep c15 | exact orI.hit hq ⟨c26, c37⟩ | exact hi.no c15 (fun z => c26 z.1) | exact hi.no c15 (fun z => c37 z.2))
  refine VW.iconst (pc' := 1) d_Model_hasRecord_0 rfl (by decide) ?_
  refine VW.istore_n (pc' := 2) d_Model_hasRecord_1 rfl rfl ?_
  refine VW.iconst (pc' := 3) d_Model_hasRecord_2 rfl (by decide) ?_
  refine VW.istore (pc' := 5) d_Model_hasRecord_3 rfl rfl ?_
  refine VW.nrm ?_
  exact loop (I 100 44).toNat 0 0 (by omega) (by omega) orI.z
end
