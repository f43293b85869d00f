section
variable {K : KT} {P : PT} {J I : IT}
/-- what the reference's numbers keep within -/
def MB (I : IT) : Prop := (0 ≤ I 100 0 ∧ I 100 0 ≤ 6) ∧ (∀ t, 0 ≤ I 201 t ∧ I 201 t ≤ 4) ∧ (∀ t, 0 ≤ I 202 t ∧ I 202 t ≤ 4) ∧ (∀ k, -1 ≤ I 206 k ∧ I 206 k < 6) ∧ (0 ≤ I 100 8 ∧ I 100 8 ≤ 12) ∧ (∀ k, 0 ≤ I 211 k ∧ I 211 k < 4) ∧
  (∀ k, 0 ≤ I 214 k ∧ I 214 k ≤ 8) ∧ (0 ≤ I 100 19 ∧ I 100 19 ≤ 60) ∧ (∀ i, 0 ≤ I 223 i ∧ I 223 i < 4) ∧ (∀ k, I 236 k = 0 ∨ I 236 k = 1)
theorem MB.tab (h : MB I) : 0 ≤ I 100 0 ∧ I 100 0 ≤ 6 := h.1
theorem MB.col (h : MB I) (t : Int) : 0 ≤ I 201 t ∧ I 201 t ≤ 4 := h.2.1 t
theorem MB.chk (h : MB I) (t : Int) : 0 ≤ I 202 t ∧ I 202 t ≤ 4 := h.2.2.1 t
theorem MB.tgt (h : MB I) (k : Int) : -1 ≤ I 206 k ∧ I 206 k < 6 := h.2.2.2.1 k
theorem MB.vei (h : MB I) : 0 ≤ I 100 8 ∧ I 100 8 ≤ 12 := h.2.2.2.2.1
theorem MB.vco (h : MB I) (k : Int) : 0 ≤ I 211 k ∧ I 211 k < 4 := h.2.2.2.2.2.1 k
theorem MB.row (h : MB I) (k : Int) : 0 ≤ I 214 k ∧ I 214 k ≤ 8 := h.2.2.2.2.2.2.1 k
theorem MB.trn (h : MB I) : 0 ≤ I 100 19 ∧ I 100 19 ≤ 60 := h.2.2.2.2.2.2.2.1
theorem MB.pla (h : MB I) (i : Int) : 0 ≤ I 223 i ∧ I 223 i < 4 := h.2.2.2.2.2.2.2.2.1 i
theorem MB.who (h : MB I) (k : Int) : I 236 k = 0 ∨ I 236 k = 1 := h.2.2.2.2.2.2.2.2.2 k
/-- the same bounds, for numbers that are the same at those places -/
theorem MB.of {I' : IT} (h : MB I) (e0 : I' 100 0 = I 100 0) (e8 : I' 100 8 = I 100 8) (e19 : I' 100 19 = I 100 19) (e201 : ∀ k, I' 201 k = I 201 k) (e202 : ∀ k, I' 202 k = I 202 k) (e206 : ∀ k, I' 206 k = I 206 k) (e211 : ∀ k, I' 211 k = I 211 k) (e214 : ∀ k, 0 ≤ I' 214 k ∧ I' 214 k ≤ 8) (e223 : ∀ k, I' 223 k = I 223 k) (e236 : ∀ k, I' 236 k = 0 ∨ I' 236 k = 1) : MB I' := by
  refine ⟨by rw [e0]; exact h.tab, fun t => by rw [e201]; exact h.col t, fun t => by rw [e202]; exact h.chk t, fun k => by rw [e206]; exact h.tgt k, by rw [e8]; exact h.vei, fun k => by rw [e211]; exact h.vco k, e214, by rw [e19]; exact h.trn, fun k => by rw [e223]; exact h.pla k, e236⟩
theorem nbI {p : Prop} : narrow .boolean (.int (Int32.ofInt (bI p))) = .int (Int32.ofInt (bI p)) := narZ (bI_01 p)
/-- a role sees a row of the reference -/
def mSeen (I : IT) (by' s t r : Int) : Prop := ∀ j, 0 ≤ j → j < I 100 8 → (I 209 j = by' → I 210 j = t → cmp3 (I 215 (mrow s t r + I 211 j)) (I 212 j) (I 213 j) = 1)
theorem sp_Model_isSeen {w s t r : Int} (hM : MW K P) (hb : MB I) (hs : 0 ≤ s ∧ s ≤ 4) (ht : 0 ≤ t ∧ t < 6) (hr : 0 ≤ r ∧ r < 64) : Sp m_Model_isSeen false (rmv 1 23) (ex K P J I (.inl (some (vI (bI (mSeen I w s t r)))))) K P J I [vR (some 100), vI w, vI s, vI t, vI r] := by
  refine Sp.ofV (by decide) (Or.inr rfl) rfl ?_
  have v0 := hb.vei
  have loop : ∀ (n : Nat) (k is : Int), k + n = I 100 8 → 0 ≤ k → andI (fun j => (I 209 j = w → I 210 j = t → cmp3 (I 215 (mrow s t r + I 211 j)) (I 212 j) (I 213 j) = 1)) 0 k is → VW m_Model_isSeen false (rmv 1 23) (ex K P J I (.inl (some (vI (bI (mSeen I w s t r)))))) K P J I 0 0 6 [(0, vR (some 100)), (1, vI w), (2, vI s), (3, vI t), (4, vI r), (5, vI is), (6, vI k)] [] := by
    intro n
    induction n with
    | zero =>
      intro k is hk hq hi
      refine VW.iload (pc' := 8) d_Model_isSeen_6 rfl rfl ?_
      refine VW.aload_n (pc' := 9) d_Model_isSeen_8 rfl rfl ?_
      refine VW.gI (ci := 11) (T := T11) (N := 94) (k := 8) (k' := 8) (pc' := 12) d_Model_isSeen_9 rfl lk_Model_270 in11 rfl rfl rfl rfl (hM.k rfl) (by first | assumption | (simp [up2] <;> rfl) | rfl) ?_
      refine VW.icmp_ge (tgt := 95) (pc' := 15) d_Model_isSeen_12 rfl rfl (fun c12 => ?_) (fun c12 => ?_)
      · refine VW.iload (pc' := 97) d_Model_isSeen_95 rfl rfl ?_
        exact VW.iret d_Model_isSeen_97 rfl (narZ hi.h01) (Nat.zero_le _) (Nat.zero_le _) (by rw [show mSeen I w s t r = (∀ j, 0 ≤ j → j < k → (fun j => (I 209 j = w → I 210 j = t → cmp3 (I 215 (mrow s t r + I 211 j)) (I 212 j) (I 213 j) = 1)) j) from by unfold mSeen; rw [show I 100 8 = k by omega], ← hi.bI]; exact ex_rf)
      · exfalso; omega
    | succ n ih =>
      intro k is hk hq hi
      have v1 := hb.vco k
      refine VW.iload (pc' := 8) d_Model_isSeen_6 rfl rfl ?_
      refine VW.aload_n (pc' := 9) d_Model_isSeen_8 rfl rfl ?_
      refine VW.gI (ci := 11) (T := T11) (N := 94) (k := 8) (k' := 8) (pc' := 12) d_Model_isSeen_9 rfl lk_Model_270 in11 rfl rfl rfl rfl (hM.k rfl) (by first | assumption | (simp [up2] <;> rfl) | rfl) ?_
      refine VW.icmp_ge (tgt := 95) (pc' := 15) d_Model_isSeen_12 rfl rfl (fun c12 => ?_) (fun c12 => ?_)
      · exfalso; omega
      · refine VW.aload_n (pc' := 16) d_Model_isSeen_15 rfl rfl ?_
        refine VW.gP (ci := 11) (T := T11) (N := 94) (k := 9) (k' := 9) (pc' := 19) d_Model_isSeen_16 rfl lk_Model_31 in11 rfl rfl rfl rfl (hM.k rfl) (hM.p (r := some 209) 9 rfl rfl) ?_
        refine VW.iload (pc' := 21) d_Model_isSeen_19 rfl rfl ?_
        refine VW.ild (pc' := 22) d_Model_isSeen_21 rfl (hM.k rfl) (by omega) (by omega) (by first | assumption | (simp [up2] <;> rfl) | rfl) ?_
        refine VW.iload_n (pc' := 23) d_Model_isSeen_22 rfl rfl ?_
        refine VW.icmp_ne (tgt := 89) (pc' := 26) d_Model_isSeen_23 rfl rfl (fun c23 => ?_) (fun c23 => ?_)
        · refine VW.iinc (pc' := 92) d_Model_isSeen_89 rfl rfl rfl (by omega) ?_
          refine VW.goto (pc' := 6) d_Model_isSeen_92 rfl ?_
          refine VW.nrm ?_
          exact ih (k + 1) _ (by omega) (by omega) (by first | exact hi.keep c39 | exact hi.yes c39 (fun _ _ => c79) | exact andI.no hq (fun z => c79 (z c23 c34)) | exact hi.same (fun z => absurd z c23) | exact hi.same (fun _ z => absurd z c34))
        · refine VW.aload_n (pc' := 27) d_Model_isSeen_26 rfl rfl ?_
          refine VW.gP (ci := 11) (T := T11) (N := 94) (k := 10) (k' := 10) (pc' := 30) d_Model_isSeen_27 rfl lk_Model_34 in11 rfl rfl rfl rfl (hM.k rfl) (hM.p (r := some 210) 10 rfl rfl) ?_
          refine VW.iload (pc' := 32) d_Model_isSeen_30 rfl rfl ?_
          refine VW.ild (pc' := 33) d_Model_isSeen_32 rfl (hM.k rfl) (by omega) (by omega) (by first | assumption | (simp [up2] <;> rfl) | rfl) ?_
          refine VW.iload_n (pc' := 34) d_Model_isSeen_33 rfl rfl ?_
          refine VW.icmp_ne (tgt := 89) (pc' := 37) d_Model_isSeen_34 rfl rfl (fun c34 => ?_) (fun c34 => ?_)
          · refine VW.iinc (pc' := 92) d_Model_isSeen_89 rfl rfl rfl (by omega) ?_
            refine VW.goto (pc' := 6) d_Model_isSeen_92 rfl ?_
            refine VW.nrm ?_
            exact ih (k + 1) _ (by omega) (by omega) (by first | exact hi.keep c39 | exact hi.yes c39 (fun _ _ => c79) | exact andI.no hq (fun z => c79 (z c23 c34)) | exact hi.same (fun z => absurd z c23) | exact hi.same (fun _ z => absurd z c34))
          · refine VW.iload (pc' := 39) d_Model_isSeen_37 rfl rfl ?_
            refine VW.if_eq (tgt := 86) (pc' := 42) d_Model_isSeen_39 rfl rfl (fun c39 => ?_) (fun c39 => ?_)
            · try have e39 := bIe c39
              refine VW.iconst (pc' := 87) d_Model_isSeen_86 rfl (by decide) ?_
              refine VW.istore (pc' := 89) d_Model_isSeen_87 rfl rfl ?_
              refine VW.iinc (pc' := 92) d_Model_isSeen_89 rfl rfl rfl (by omega) ?_
              refine VW.goto (pc' := 6) d_Model_isSeen_92 rfl ?_
              refine VW.nrm ?_
              exact ih (k + 1) _ (by omega) (by omega) (by first | exact hi.keep c39 | exact hi.yes c39 (fun _ _ => c79) | exact andI.no hq (fun z => c79 (z c23 c34)) | exact hi.same (fun z => absurd z c23) | exact hi.same (fun _ z => absurd z c34))
            · try have e39 := bIn c39
              refine VW.aload_n (pc' := 43) d_Model_isSeen_42 rfl rfl ?_
              refine VW.gP (ci := 11) (T := T11) (N := 94) (k := 15) (k' := 15) (pc' := 46) d_Model_isSeen_43 rfl lk_Model_49 in11 rfl rfl rfl rfl (hM.k rfl) (hM.p (r := some 215) 15 rfl rfl) ?_
              refine VW.iload_n (pc' := 47) d_Model_isSeen_46 rfl rfl ?_
              refine VW.iload_n (pc' := 48) d_Model_isSeen_47 rfl rfl ?_
              refine VW.iload (pc' := 50) d_Model_isSeen_48 rfl rfl ?_
              refine VW.aload_n (pc' := 51) d_Model_isSeen_50 rfl rfl ?_
              refine VW.gP (ci := 11) (T := T11) (N := 94) (k := 11) (k' := 11) (pc' := 54) d_Model_isSeen_51 rfl lk_Model_37 in11 rfl rfl rfl rfl (hM.k rfl) (hM.p (r := some 211) 11 rfl rfl) ?_
              refine VW.iload (pc' := 56) d_Model_isSeen_54 rfl rfl ?_
              refine VW.ild (pc' := 57) d_Model_isSeen_56 rfl (hM.k rfl) (by omega) (by omega) (by first | assumption | (simp [up2] <;> rfl) | rfl) ?_
              refine VW.cS (pc' := 60) d_Model_isSeen_57 rfl ms_Model_cell lk_Model_273 rfl rfl rfl (Nat.le_refl _) (Nat.le_refl _) (sp_Model_cell (by omega) (by omega) (by omega) (by omega)) rfl rfl ?_
              refine VW.ild (pc' := 61) d_Model_isSeen_60 rfl (hM.k rfl) (by omega) (by omega) (by first | assumption | (simp [up2] <;> rfl) | rfl) ?_
              refine VW.aload_n (pc' := 62) d_Model_isSeen_61 rfl rfl ?_
              refine VW.gP (ci := 11) (T := T11) (N := 94) (k := 12) (k' := 12) (pc' := 65) d_Model_isSeen_62 rfl lk_Model_40 in11 rfl rfl rfl rfl (hM.k rfl) (hM.p (r := some 212) 12 rfl rfl) ?_
              refine VW.iload (pc' := 67) d_Model_isSeen_65 rfl rfl ?_
              refine VW.ild (pc' := 68) d_Model_isSeen_67 rfl (hM.k rfl) (by omega) (by omega) (by first | assumption | (simp [up2] <;> rfl) | rfl) ?_
              refine VW.aload_n (pc' := 69) d_Model_isSeen_68 rfl rfl ?_
              refine VW.gP (ci := 11) (T := T11) (N := 94) (k := 13) (k' := 13) (pc' := 72) d_Model_isSeen_69 rfl lk_Model_43 in11 rfl rfl rfl rfl (hM.k rfl) (hM.p (r := some 213) 13 rfl rfl) ?_
              refine VW.iload (pc' := 74) d_Model_isSeen_72 rfl rfl ?_
              refine VW.ild (pc' := 75) d_Model_isSeen_74 rfl (hM.k rfl) (by omega) (by omega) (by first | assumption | (simp [up2] <;> rfl) | rfl) ?_
              refine VW.cS (pc' := 78) d_Model_isSeen_75 rfl ms_Model_compares lk_Model_281 rfl rfl rfl (Nat.le_refl _) (Nat.le_refl _) (sp_Model_compares) rfl rfl ?_
              refine VW.iconst (pc' := 79) d_Model_isSeen_78 rfl (by decide) ?_
              refine VW.icmp_ne (tgt := 86) (pc' := 82) d_Model_isSeen_79 rfl rfl (fun c79 => ?_) (fun c79 => ?_)
              · refine VW.iconst (pc' := 87) d_Model_isSeen_86 rfl (by decide) ?_
                refine VW.istore (pc' := 89) d_Model_isSeen_87 rfl rfl ?_
                refine VW.iinc (pc' := 92) d_Model_isSeen_89 rfl rfl rfl (by omega) ?_
                refine VW.goto (pc' := 6) d_Model_isSeen_92 rfl ?_
                refine VW.nrm ?_
                exact ih (k + 1) _ (by omega) (by omega) (by first | exact hi.keep c39 | exact hi.yes c39 (fun _ _ => c79) | exact andI.no hq (fun z => c79 (z c23 c34)) | exact hi.same (fun z => absurd z c23) | exact hi.same (fun _ z => absurd z c34))
              · refine VW.iconst (pc' := 83) d_Model_isSeen_82 rfl (by decide) ?_
                refine VW.goto (pc' := 87) d_Model_isSeen_83 rfl ?_
                refine VW.istore (pc' := 89) d_Model_isSeen_87 rfl rfl ?_
                refine VW.iinc (pc' := 92) d_Model_isSeen_89 rfl rfl rfl (by omega) ?_
                refine VW.goto (pc' := 6) d_Model_isSeen_92 rfl ?_
                refine VW.nrm ?_
                exact ih (k + 1) _ (by omega) (by omega) (by first | exact hi.keep c39 | exact hi.yes c39 (fun _ _ => c79) | exact andI.no hq (fun z => c79 (z c23 c34)) | exact hi.same (fun z => absurd z c23) | exact hi.same (fun _ z => absurd z c34))
  refine VW.iconst (pc' := 1) d_Model_isSeen_0 rfl (by decide) ?_
  refine VW.istore (pc' := 3) d_Model_isSeen_1 rfl rfl ?_
  refine VW.iconst (pc' := 4) d_Model_isSeen_3 rfl (by decide) ?_
  refine VW.istore (pc' := 6) d_Model_isSeen_4 rfl rfl ?_
  refine VW.nrm ?_
  exact loop (I 100 8).toNat 0 1 (by omega) (by omega) andI.z
/-- a transaction of the reference has read a key, or the table -/
def mRead (I : IT) (i t key : Int) : Prop := I 236 (6 * i + t) = 1 ∨ ∃ j, 2048 * i ≤ j ∧ j < 2048 * i + I 233 i ∧ (I 234 j = t ∧ I 235 j = key)
theorem orI_or {g : Int → Prop} {lo k is w : Int} (h : (w = 1 ∧ is = 1) ∨ (w = 0 ∧ orI g lo k is)) : is = bI (w = 1 ∨ ∃ j, lo ≤ j ∧ j < k ∧ g j) := by
  rcases h with ⟨h1, h2⟩ | ⟨h1, h2⟩
  · rw [bI1 (Or.inl h1)]; exact h2
  · rw [h2.bI]
    exact bIc ⟨Or.inr, fun z => z.elim (fun q => by omega) id⟩
theorem sp_Model_hasReadKey {i t key : Int} (hM : MW K P) (hb : MB I) (hi : 0 ≤ i ∧ i < 60) (ht : 0 ≤ t ∧ t < 6) (hn : 0 ≤ I 233 i ∧ I 233 i ≤ 2048) : Sp m_Model_hasReadKey false (rmv 0 0) (ex K P J I (.inl (some (vI (bI (mRead I i t key)))))) K P J I [vR (some 100), vI i, vI t, vI key] := by
  refine Sp.ofV (by decide) (Or.inr rfl) rfl ?_
  have w0 := hb.who (6 * i + t)
  have fin : ∀ (k is : Int), (is ≠ 0 ∨ k = 2048 * i + I 233 i) → k ≤ 2048 * i + I 233 i → ((I 236 (6 * i + t) = 1 ∧ is = 1) ∨ (I 236 (6 * i + t) = 0 ∧ orI (fun j => I 234 j = t ∧ I 235 j = key) (2048 * i) k is)) → VW m_Model_hasReadKey false (rmv 0 0) (ex K P J I (.inl (some (vI (bI (mRead I i t key)))))) K P J I 0 0 77 [(4, vI is)] [] := by
    intro k is h1 h2 hi'
    have h01 : is = 0 ∨ is = 1 := hi'.elim (fun q => Or.inr q.2) (fun q => q.2.h01)
    have e : is = bI (mRead I i t key) := by
      rcases h1 with h1 | h1
      · have : is = 1 := by omega
        rw [this]
        refine (bI1 ?_).symm
        rcases hi' with q | ⟨q1, q2⟩
        · exact Or.inl q.1
        · rcases q2 with ⟨-, j, a1, a2, a3⟩ | ⟨q2, -⟩
          · exact Or.inr ⟨j, a1, by omega, a3⟩
          · omega
      · subst h1
        exact orI_or hi'
    refine VW.iload (pc' := 79) d_Model_hasReadKey_77 rfl rfl ?_
    exact VW.iret d_Model_hasReadKey_79 rfl (narZ h01) (Nat.zero_le _) (Nat.zero_le _) (by rw [← e]; exact ex_rf)
  have loop : ∀ (n : Nat) (k is : Int), k + n = 2048 * i + I 233 i → 2048 * i ≤ k → ((I 236 (6 * i + t) = 1 ∧ is = 1) ∨ (I 236 (6 * i + t) = 0 ∧ orI (fun j => I 234 j = t ∧ I 235 j = key) (2048 * i) k is)) → VW m_Model_hasReadKey false (rmv 0 0) (ex K P J I (.inl (some (vI (bI (mRead I i t key)))))) K P J I 0 0 20 [(0, vR (some 100)), (1, vI i), (2, vI t), (3, vI key), (4, vI is), (5, vI k)] [] := by
    intro n
    induction n with
    | zero =>
      intro k is hk hq hi'
      refine VW.iload (pc' := 22) d_Model_hasReadKey_20 rfl rfl ?_
      refine VW.sipush (pc' := 25) d_Model_hasReadKey_22 rfl (by decide) ?_
      refine VW.iload_n (pc' := 26) d_Model_hasReadKey_25 rfl rfl ?_
      refine VW.imul (pc' := 27) d_Model_hasReadKey_26 rfl (by omega) ?_
      refine VW.aload_n (pc' := 28) d_Model_hasReadKey_27 rfl rfl ?_
      refine VW.gP (ci := 11) (T := T11) (N := 94) (k := 33) (k' := 33) (pc' := 31) d_Model_hasReadKey_28 rfl lk_Model_98 in11 rfl rfl rfl rfl (hM.k rfl) (hM.p (r := some 233) 33 rfl rfl) ?_
      refine VW.iload_n (pc' := 32) d_Model_hasReadKey_31 rfl rfl ?_
      refine VW.ild (pc' := 33) d_Model_hasReadKey_32 rfl (hM.k rfl) (by omega) (by omega) (by first | assumption | (simp [up2] <;> rfl) | rfl) ?_
      refine VW.iadd (pc' := 34) d_Model_hasReadKey_33 rfl (by omega) ?_
      refine VW.icmp_ge (tgt := 77) (pc' := 37) d_Model_hasReadKey_34 rfl rfl (fun c34 => ?_) (fun c34 => ?_)
      · refine VW.pick [4] ?_
        exact fin k is (Or.inr (by omega)) (by omega) hi'
      · exfalso; omega
    | succ n ih =>
      intro k is hk hq hi'
      refine VW.iload (pc' := 22) d_Model_hasReadKey_20 rfl rfl ?_
      refine VW.sipush (pc' := 25) d_Model_hasReadKey_22 rfl (by decide) ?_
      refine VW.iload_n (pc' := 26) d_Model_hasReadKey_25 rfl rfl ?_
      refine VW.imul (pc' := 27) d_Model_hasReadKey_26 rfl (by omega) ?_
      refine VW.aload_n (pc' := 28) d_Model_hasReadKey_27 rfl rfl ?_
      refine VW.gP (ci := 11) (T := T11) (N := 94) (k := 33) (k' := 33) (pc' := 31) d_Model_hasReadKey_28 rfl lk_Model_98 in11 rfl rfl rfl rfl (hM.k rfl) (hM.p (r := some 233) 33 rfl rfl) ?_
      refine VW.iload_n (pc' := 32) d_Model_hasReadKey_31 rfl rfl ?_
      refine VW.ild (pc' := 33) d_Model_hasReadKey_32 rfl (hM.k rfl) (by omega) (by omega) (by first | assumption | (simp [up2] <;> rfl) | rfl) ?_
      refine VW.iadd (pc' := 34) d_Model_hasReadKey_33 rfl (by omega) ?_
      refine VW.icmp_ge (tgt := 77) (pc' := 37) d_Model_hasReadKey_34 rfl rfl (fun c34 => ?_) (fun c34 => ?_)
      · refine VW.pick [4] ?_
        first | (exfalso; omega) | exact fin k is (Or.inl c39) (by omega) hi'
      · refine VW.iload (pc' := 39) d_Model_hasReadKey_37 rfl rfl ?_
        refine VW.if_ne (tgt := 77) (pc' := 42) d_Model_hasReadKey_39 rfl rfl (fun c39 => ?_) (fun c39 => ?_)
        · try have e39 := bIn c39
          refine VW.pick [4] ?_
          first | (exfalso; omega) | exact fin k is (Or.inl c39) (by omega) hi'
        · try have e39 := bIe c39
          refine VW.aload_n (pc' := 43) d_Model_hasReadKey_42 rfl rfl ?_
          refine VW.gP (ci := 11) (T := T11) (N := 94) (k := 34) (k' := 34) (pc' := 46) d_Model_hasReadKey_43 rfl lk_Model_102 in11 rfl rfl rfl rfl (hM.k rfl) (hM.p (r := some 234) 34 rfl rfl) ?_
          refine VW.iload (pc' := 48) d_Model_hasReadKey_46 rfl rfl ?_
          refine VW.ild (pc' := 49) d_Model_hasReadKey_48 rfl (hM.k rfl) (by omega) (by omega) (by first | assumption | (simp [up2] <;> rfl) | rfl) ?_
          refine VW.iload_n (pc' := 50) d_Model_hasReadKey_49 rfl rfl ?_
          refine VW.icmp_ne (tgt := 68) (pc' := 53) d_Model_hasReadKey_50 rfl rfl (fun c50 => ?_) (fun c50 => ?_)
          · refine VW.iconst (pc' := 69) d_Model_hasReadKey_68 rfl (by decide) ?_
            refine VW.istore (pc' := 71) d_Model_hasReadKey_69 rfl rfl ?_
            refine VW.iinc (pc' := 74) d_Model_hasReadKey_71 rfl rfl rfl (by omega) ?_
            refine VW.goto (pc' := 20) d_Model_hasReadKey_74 rfl ?_
            refine VW.nrm ?_
            exact ih (k + 1) _ (by omega) (by omega) (by
              rcases hi' with ⟨q1, q2⟩ | ⟨q1, q2⟩
              · exfalso; omega
              · refine Or.inr ⟨q1, ?_⟩
                first | exact orI.hit hq ⟨c50, c61⟩ | exact q2.no c39 (fun z => c50 z.1) | exact q2.no c39 (fun z => c61 z.2))
          · refine VW.aload_n (pc' := 54) d_Model_hasReadKey_53 rfl rfl ?_
            refine VW.gP (ci := 11) (T := T11) (N := 94) (k := 35) (k' := 35) (pc' := 57) d_Model_hasReadKey_54 rfl lk_Model_105 in11 rfl rfl rfl rfl (hM.k rfl) (hM.p (r := some 235) 35 rfl rfl) ?_
            refine VW.iload (pc' := 59) d_Model_hasReadKey_57 rfl rfl ?_
            refine VW.ild (pc' := 60) d_Model_hasReadKey_59 rfl (hM.k rfl) (by omega) (by omega) (by first | assumption | (simp [up2] <;> rfl) | rfl) ?_
            refine VW.iload_n (pc' := 61) d_Model_hasReadKey_60 rfl rfl ?_
            refine VW.icmp_ne (tgt := 68) (pc' := 64) d_Model_hasReadKey_61 rfl rfl (fun c61 => ?_) (fun c61 => ?_)
            · refine VW.iconst (pc' := 69) d_Model_hasReadKey_68 rfl (by decide) ?_
              refine VW.istore (pc' := 71) d_Model_hasReadKey_69 rfl rfl ?_
              refine VW.iinc (pc' := 74) d_Model_hasReadKey_71 rfl rfl rfl (by omega) ?_
              refine VW.goto (pc' := 20) d_Model_hasReadKey_74 rfl ?_
              refine VW.nrm ?_
              exact ih (k + 1) _ (by omega) (by omega) (by
                rcases hi' with ⟨q1, q2⟩ | ⟨q1, q2⟩
                · exfalso; omega
                · refine Or.inr ⟨q1, ?_⟩
                  first | exact orI.hit hq ⟨c50, c61⟩ | exact q2.no c39 (fun z => c50 z.1) | exact q2.no c39 (fun z => c61 z.2))
            · refine VW.iconst (pc' := 65) d_Model_hasReadKey_64 rfl (by decide) ?_
              refine VW.goto (pc' := 69) d_Model_hasReadKey_65 rfl ?_
              refine VW.istore (pc' := 71) d_Model_hasReadKey_69 rfl rfl ?_
              refine VW.iinc (pc' := 74) d_Model_hasReadKey_71 rfl rfl rfl (by omega) ?_
              refine VW.goto (pc' := 20) d_Model_hasReadKey_74 rfl ?_
              refine VW.nrm ?_
              exact ih (k + 1) _ (by omega) (by omega) (by
                rcases hi' with ⟨q1, q2⟩ | ⟨q1, q2⟩
                · exfalso; omega
                · refine Or.inr ⟨q1, ?_⟩
                  first | exact orI.hit hq ⟨c50, c61⟩ | exact q2.no c39 (fun z => c50 z.1) | exact q2.no c39 (fun z => c61 z.2))
  refine VW.aload_n (pc' := 1) d_Model_hasReadKey_0 rfl rfl ?_
  refine VW.gP (ci := 11) (T := T11) (N := 94) (k := 36) (k' := 36) (pc' := 4) d_Model_hasReadKey_1 rfl lk_Model_108 in11 rfl rfl rfl rfl (hM.k rfl) (hM.p (r := some 236) 36 rfl rfl) ?_
  refine VW.bipush (pc' := 6) d_Model_hasReadKey_4 rfl (by decide) ?_
  refine VW.iload_n (pc' := 7) d_Model_hasReadKey_6 rfl rfl ?_
  refine VW.imul (pc' := 8) d_Model_hasReadKey_7 rfl (by omega) ?_
  refine VW.iload_n (pc' := 9) d_Model_hasReadKey_8 rfl rfl ?_
  refine VW.iadd (pc' := 10) d_Model_hasReadKey_9 rfl (by omega) ?_
  refine VW.zld (pc' := 11) d_Model_hasReadKey_10 rfl (hM.k rfl) (by omega) (by omega) (by first | assumption | (simp [up2] <;> rfl) | rfl) ?_
  refine VW.istore (pc' := 13) d_Model_hasReadKey_11 rfl rfl ?_
  refine VW.sipush (pc' := 16) d_Model_hasReadKey_13 rfl (by decide) ?_
  refine VW.iload_n (pc' := 17) d_Model_hasReadKey_16 rfl rfl ?_
  refine VW.imul (pc' := 18) d_Model_hasReadKey_17 rfl (by omega) ?_
  refine VW.istore (pc' := 20) d_Model_hasReadKey_18 rfl rfl ?_
  refine VW.nrm ?_
  exact loop (I 233 i).toNat (2048 * i) _ (by omega) (by omega) (by rcases w0 with w0 | w0; exact Or.inr ⟨w0, by rw [w0]; exact orI.z⟩; exact Or.inl ⟨w0, w0⟩)
noncomputable def mReadsKey (I : IT) (i t key : Int) : IT := @ite IT (mRead I i t key) (Classical.propDecidable _) I (up2 (up2 (up2 I 234 (2048 * i + I 233 i) t) 235 (2048 * i + I 233 i) key) 233 i (I 233 i + 1))
theorem mReadsKey_1 {i t key : Int} (h : mRead I i t key) : mReadsKey I i t key = I := @if_pos _ (Classical.propDecidable _) h _ _ _
theorem mReadsKey_0 {i t key : Int} (h : ¬ mRead I i t key) : mReadsKey I i t key = up2 (up2 (up2 I 234 (2048 * i + I 233 i) t) 235 (2048 * i + I 233 i) key) 233 i (I 233 i + 1) := @if_neg _ (Classical.propDecidable _) h _ _ _
theorem sp_Model_readsKey {i t key : Int} (hM : MW K P) (hb : MB I) (hi : 0 ≤ i ∧ i < 60) (ht : 0 ≤ t ∧ t < 6) (hn : 0 ≤ I 233 i ∧ I 233 i < 2048) : Sp m_Model_readsKey false (rmv 1 25) (ex K P J (mReadsKey I i t key) (.inl none)) K P J I [vR (some 100), vI i, vI t, vI key] := by
  refine Sp.ofV (by decide) (Or.inr rfl) rfl ?_
  refine VW.aload_n (pc' := 1) d_Model_readsKey_0 rfl rfl ?_
  refine VW.iload_n (pc' := 2) d_Model_readsKey_1 rfl rfl ?_
  refine VW.iload_n (pc' := 3) d_Model_readsKey_2 rfl rfl ?_
  refine VW.iload_n (pc' := 4) d_Model_readsKey_3 rfl rfl ?_
  refine VW.cV (ci := 11) (T := T11) (N := 94) (pc' := 7) d_Model_readsKey_4 rfl mv_Model_hasReadKey lk_Model_291 rfl (hM.k rfl) rfl rfl rfl (Nat.le_refl _) (Nat.le_refl _) (sp_Model_hasReadKey hM hb hi ht ⟨hn.1, by omega⟩) rfl rfl ?_
  refine VW.if_ne (tgt := 50) (pc' := 10) d_Model_readsKey_7 rfl rfl (fun c7 => ?_) (fun c7 => ?_)
  · try have e7 := bIn c7
    exact VW.vret d_Model_readsKey_50 rfl (Nat.zero_le _) (Nat.zero_le _) (by first | (rw [mReadsKey_1 e7]; exact ex_rf) | (rw [mReadsKey_0 e7]; exact ex_rf))
  · try have e7 := bIe c7
    refine VW.sipush (pc' := 13) d_Model_readsKey_10 rfl (by decide) ?_
    refine VW.iload_n (pc' := 14) d_Model_readsKey_13 rfl rfl ?_
    refine VW.imul (pc' := 15) d_Model_readsKey_14 rfl (by omega) ?_
    refine VW.aload_n (pc' := 16) d_Model_readsKey_15 rfl rfl ?_
    refine VW.gP (ci := 11) (T := T11) (N := 94) (k := 33) (k' := 33) (pc' := 19) d_Model_readsKey_16 rfl lk_Model_98 in11 rfl rfl rfl rfl (hM.k rfl) (hM.p (r := some 233) 33 rfl rfl) ?_
    refine VW.iload_n (pc' := 20) d_Model_readsKey_19 rfl rfl ?_
    refine VW.ild (pc' := 21) d_Model_readsKey_20 rfl (hM.k rfl) (by omega) (by omega) (by first | assumption | (simp [up2] <;> rfl) | rfl) ?_
    refine VW.iadd (pc' := 22) d_Model_readsKey_21 rfl (by omega) ?_
    refine VW.istore (pc' := 24) d_Model_readsKey_22 rfl rfl ?_
    refine VW.aload_n (pc' := 25) d_Model_readsKey_24 rfl rfl ?_
    refine VW.gP (ci := 11) (T := T11) (N := 94) (k := 34) (k' := 34) (pc' := 28) d_Model_readsKey_25 rfl lk_Model_102 in11 rfl rfl rfl rfl (hM.k rfl) (hM.p (r := some 234) 34 rfl rfl) ?_
    refine VW.iload (pc' := 30) d_Model_readsKey_28 rfl rfl ?_
    refine VW.iload_n (pc' := 31) d_Model_readsKey_30 rfl rfl ?_
    refine VW.iast (pc' := 32) d_Model_readsKey_31 rfl (hM.k rfl) (by omega) (by omega) ?_
    refine VW.aload_n (pc' := 33) d_Model_readsKey_32 rfl rfl ?_
    refine VW.gP (ci := 11) (T := T11) (N := 94) (k := 35) (k' := 35) (pc' := 36) d_Model_readsKey_33 rfl lk_Model_105 in11 rfl rfl rfl rfl (hM.k rfl) (hM.p (r := some 235) 35 rfl rfl) ?_
    refine VW.iload (pc' := 38) d_Model_readsKey_36 rfl rfl ?_
    refine VW.iload_n (pc' := 39) d_Model_readsKey_38 rfl rfl ?_
    refine VW.iast (pc' := 40) d_Model_readsKey_39 rfl (hM.k rfl) (by omega) (by omega) ?_
    refine VW.aload_n (pc' := 41) d_Model_readsKey_40 rfl rfl ?_
    refine VW.gP (ci := 11) (T := T11) (N := 94) (k := 33) (k' := 33) (pc' := 44) d_Model_readsKey_41 rfl lk_Model_98 in11 rfl rfl rfl rfl (hM.k rfl) (hM.p (r := some 233) 33 rfl rfl) ?_
    refine VW.iload_n (pc' := 45) d_Model_readsKey_44 rfl rfl ?_
    refine VW.dup2 (pc' := 46) d_Model_readsKey_45 rfl rfl rfl ?_
    refine VW.ild (pc' := 47) d_Model_readsKey_46 rfl (hM.k rfl) (by omega) (by omega) (by first | assumption | (simp [up2] <;> rfl) | rfl) ?_
    refine VW.iconst (pc' := 48) d_Model_readsKey_47 rfl (by decide) ?_
    refine VW.iadd (pc' := 49) d_Model_readsKey_48 rfl (by omega) ?_
    refine VW.iast (pc' := 50) d_Model_readsKey_49 rfl (hM.k rfl) (by omega) (by omega) ?_
    exact VW.vret d_Model_readsKey_50 rfl (Nat.zero_le _) (Nat.zero_le _) (by first | (rw [mReadsKey_1 e7]; exact ex_rf) | (rw [mReadsKey_0 e7]; exact ex_rf))
noncomputable def mReadsRef (I : IT) (i t c v : Int) : IT := if I 206 (4 * t + c) = -1 ∨ v = -2147483648 then I else mReadsKey I i (I 206 (4 * t + c)) v
theorem mReadsRef_1 {i t c v : Int} (h : I 206 (4 * t + c) = -1 ∨ v = -2147483648) : mReadsRef I i t c v = I := if_pos h
theorem mReadsRef_0 {i t c v : Int} (h : ¬ (I 206 (4 * t + c) = -1 ∨ v = -2147483648)) : mReadsRef I i t c v = mReadsKey I i (I 206 (4 * t + c)) v := if_neg h
theorem sp_Model_readsReference {i t c v : Int} (hM : MW K P) (hb : MB I) (hi : 0 ≤ i ∧ i < 60) (ht : 0 ≤ t ∧ t < 6) (hc : 0 ≤ c ∧ c < 4) (hn : 0 ≤ I 233 i ∧ I 233 i < 2048) : Sp m_Model_readsReference false (rmv 2 49) (ex K P J (mReadsRef I i t c v) (.inl none)) K P J I [vR (some 100), vI i, vI t, vI c, vI v] := by
  refine Sp.ofV (by decide) (Or.inr rfl) rfl ?_
  have t0 := hb.tgt (4 * t + c)
  refine VW.aload_n (pc' := 1) d_Model_readsReference_0 rfl rfl ?_
  refine VW.gP (ci := 11) (T := T11) (N := 94) (k := 6) (k' := 6) (pc' := 4) d_Model_readsReference_1 rfl lk_Model_25 in11 rfl rfl rfl rfl (hM.k rfl) (hM.p (r := some 206) 6 rfl rfl) ?_
  refine VW.iconst (pc' := 5) d_Model_readsReference_4 rfl (by decide) ?_
  refine VW.iload_n (pc' := 6) d_Model_readsReference_5 rfl rfl ?_
  refine VW.imul (pc' := 7) d_Model_readsReference_6 rfl (by omega) ?_
  refine VW.iload_n (pc' := 8) d_Model_readsReference_7 rfl rfl ?_
  refine VW.iadd (pc' := 9) d_Model_readsReference_8 rfl (by omega) ?_
  refine VW.ild (pc' := 10) d_Model_readsReference_9 rfl (hM.k rfl) (by omega) (by omega) (by first | assumption | (simp [up2] <;> rfl) | rfl) ?_
  refine VW.istore (pc' := 12) d_Model_readsReference_10 rfl rfl ?_
  refine VW.iload (pc' := 14) d_Model_readsReference_12 rfl rfl ?_
  refine VW.iconst (pc' := 15) d_Model_readsReference_14 rfl (by decide) ?_
  refine VW.icmp_eq (tgt := 34) (pc' := 18) d_Model_readsReference_15 rfl rfl (fun c15 => ?_) (fun c15 => ?_)
  · exact VW.vret d_Model_readsReference_34 rfl (Nat.zero_le _) (Nat.zero_le _) (by first | (rw [mReadsRef_1 (by omega)]; exact ex_rf) | (rw [mReadsRef_0 (by omega)]; exact ex_rf))
  · refine VW.iload (pc' := 20) d_Model_readsReference_18 rfl rfl ?_
    refine VW.ldc (pc' := 22) (z := -2147483648) d_Model_readsReference_20 rfl lk_Model_246 (by decide) (by decide) ?_
    refine VW.icmp_eq (tgt := 34) (pc' := 25) d_Model_readsReference_22 rfl rfl (fun c22 => ?_) (fun c22 => ?_)
    · exact VW.vret d_Model_readsReference_34 rfl (Nat.zero_le _) (Nat.zero_le _) (by first | (rw [mReadsRef_1 (by omega)]; exact ex_rf) | (rw [mReadsRef_0 (by omega)]; exact ex_rf))
    · refine VW.aload_n (pc' := 26) d_Model_readsReference_25 rfl rfl ?_
      refine VW.iload_n (pc' := 27) d_Model_readsReference_26 rfl rfl ?_
      refine VW.iload (pc' := 29) d_Model_readsReference_27 rfl rfl ?_
      refine VW.iload (pc' := 31) d_Model_readsReference_29 rfl rfl ?_
      refine VW.cV (ci := 11) (T := T11) (N := 94) (pc' := 34) d_Model_readsReference_31 rfl mv_Model_readsKey lk_Model_308 rfl (hM.k rfl) rfl rfl rfl (Nat.le_refl _) (Nat.le_refl _) (sp_Model_readsKey hM hb hi (by omega) hn) rfl rfl ?_
      exact VW.vret d_Model_readsReference_34 rfl (Nat.zero_le _) (Nat.zero_le _) (by first | (rw [mReadsRef_1 (by omega)]; exact ex_rf) | (rw [mReadsRef_0 (by omega)]; exact ex_rf))
end
