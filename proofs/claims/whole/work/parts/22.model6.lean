section
variable {K : KT} {P : PT} {J I : IT}
/-- the tables that refer to a table are read whole, those of the first n columns of all -/
noncomputable def mReadsRefs (I : IT) (i t : Int) (n : Int) : IT := fun o q => @ite Int (o = 236 ∧ ∃ j, 0 ≤ j ∧ j < n ∧ I 206 j = t ∧ q = 6 * i + j.tdiv 4) (Classical.propDecidable _) 1 (I o q)
theorem mReadsRefs_0 {I : IT} {i t : Int} : mReadsRefs I i t 0 = I := by
  funext o q
  exact @if_neg _ (Classical.propDecidable _) (fun ⟨_, j, h1, h2, _⟩ => by omega) Int 1 (I o q)
theorem mReadsRefs_no {I : IT} {i t n : Int} (h : I 206 n ≠ t) : mReadsRefs I i t (n + 1) = mReadsRefs I i t n := by
  funext o q
  unfold mReadsRefs
  congr 1
  apply propext
  constructor
  · rintro ⟨a, j, b, c, d, e⟩
    refine ⟨a, j, b, ?_, d, e⟩
    by_cases z : j = n
    · subst z; exact absurd d h
    · omega
  · rintro ⟨a, j, b, c, d, e⟩
    exact ⟨a, j, b, by omega, d, e⟩
theorem mReadsRefs_yes {I : IT} {i t n : Int} (h0 : 0 ≤ n) (h : I 206 n = t) : up2 (mReadsRefs I i t n) 236 (6 * i + n.tdiv 4) 1 = mReadsRefs I i t (n + 1) := by
  funext o q
  unfold up2 mReadsRefs
  by_cases z : o = 236 ∧ q = 6 * i + n.tdiv 4
  · rw [if_pos z, @if_pos _ (Classical.propDecidable _) ⟨z.1, n, h0, by omega, h, z.2⟩ Int]
  · rw [if_neg z]
    congr 1
    apply propext
    constructor
    · rintro ⟨a, j, b, c, d, e⟩
      exact ⟨a, j, b, by omega, d, e⟩
    · rintro ⟨a, j, b, c, d, e⟩
      refine ⟨a, j, b, ?_, d, e⟩
      by_cases y : j = n
      · subst y; exact absurd ⟨a, e⟩ z
      · omega
theorem mReadsRefs_o {I : IT} {i t n : Int} {o : Nat} {q : Int} (h : o ≠ 236) : mReadsRefs I i t n o q = I o q := @if_neg _ (Classical.propDecidable _) (fun z => h z.1) Int 1 (I o q)
theorem sp_Model_readsReferrers {i t : Int} (hM : MW K P) (hi : 0 ≤ i ∧ i < 60) : Sp m_Model_readsReferrers false (rmv 0 0) (ex K P J (mReadsRefs I i t 24) (.inl none)) K P J I [vR (some 100), vI i, vI t] := by
  refine Sp.ofV (by decide) (Or.inr rfl) rfl ?_
  have loop : ∀ (n : Nat) (k : Int), k + n = 24 → 0 ≤ k → VW m_Model_readsReferrers false (rmv 0 0) (ex K P J (mReadsRefs I i t 24) (.inl none)) K P J (mReadsRefs I i t k) 0 0 2 [(0, vR (some 100)), (1, vI i), (2, vI t), (3, vI k)] [] := by
    intro n
    induction n with
    | zero =>
      intro k hk hq
      refine VW.iload_n (pc' := 3) d_Model_readsReferrers_2 rfl rfl ?_
      refine VW.bipush (pc' := 5) d_Model_readsReferrers_3 rfl (by decide) ?_
      refine VW.icmp_ge (tgt := 38) (pc' := 8) d_Model_readsReferrers_5 rfl rfl (fun c5 => ?_) (fun c5 => ?_)
      · exact VW.vret d_Model_readsReferrers_38 rfl (Nat.zero_le _) (Nat.zero_le _) (by rw [show k = 24 by omega]; exact ex_rf)
      · exfalso; omega
    | succ n ih =>
      intro k hk hq
      have q0 : 0 ≤ k.tdiv 4 ∧ k.tdiv 4 < 6 := by rw [Int.tdiv_eq_ediv_of_nonneg hq]; omega
      refine VW.iload_n (pc' := 3) d_Model_readsReferrers_2 rfl rfl ?_
      refine VW.bipush (pc' := 5) d_Model_readsReferrers_3 rfl (by decide) ?_
      refine VW.icmp_ge (tgt := 38) (pc' := 8) d_Model_readsReferrers_5 rfl rfl (fun c5 => ?_) (fun c5 => ?_)
      · exfalso; omega
      · refine VW.aload_n (pc' := 9) d_Model_readsReferrers_8 rfl rfl ?_
        refine VW.gP (ci := 11) (T := T11) (N := 94) (k := 6) (k' := 6) (pc' := 12) d_Model_readsReferrers_9 rfl lk_Model_25 in11 rfl rfl rfl rfl (hM.k rfl) (hM.p (r := some 206) 6 rfl rfl) ?_
        refine VW.iload_n (pc' := 13) d_Model_readsReferrers_12 rfl rfl ?_
        refine VW.ild (pc' := 14) d_Model_readsReferrers_13 rfl (hM.k rfl) (by omega) (by omega) (mReadsRefs_o (by decide)) ?_
        refine VW.iload_n (pc' := 15) d_Model_readsReferrers_14 rfl rfl ?_
        refine VW.icmp_ne (tgt := 32) (pc' := 18) d_Model_readsReferrers_15 rfl rfl (fun c15 => ?_) (fun c15 => ?_)
        · refine VW.nrm ?_
          first | rw [mReadsRefs_yes hq c15] | rw [← mReadsRefs_no (n := k) c15]
          refine VW.iinc (pc' := 35) d_Model_readsReferrers_32 rfl rfl rfl (by omega) ?_
          refine VW.goto (pc' := 2) d_Model_readsReferrers_35 rfl ?_
          refine VW.nrm ?_
          exact ih (k + 1) (by omega) (by omega)
        · refine VW.aload_n (pc' := 19) d_Model_readsReferrers_18 rfl rfl ?_
          refine VW.gP (ci := 11) (T := T11) (N := 94) (k := 36) (k' := 36) (pc' := 22) d_Model_readsReferrers_19 rfl lk_Model_108 in11 rfl rfl rfl rfl (hM.k rfl) (hM.p (r := some 236) 36 rfl rfl) ?_
          refine VW.bipush (pc' := 24) d_Model_readsReferrers_22 rfl (by decide) ?_
          refine VW.iload_n (pc' := 25) d_Model_readsReferrers_24 rfl rfl ?_
          refine VW.imul (pc' := 26) d_Model_readsReferrers_25 rfl (by omega) ?_
          refine VW.iload_n (pc' := 27) d_Model_readsReferrers_26 rfl rfl ?_
          refine VW.iconst (pc' := 28) d_Model_readsReferrers_27 rfl (by decide) ?_
          refine VW.idiv (pc' := 29) d_Model_readsReferrers_28 rfl (by omega) (by omega) ?_
          refine VW.iadd (pc' := 30) d_Model_readsReferrers_29 rfl (by omega) ?_
          refine VW.iconst (pc' := 31) d_Model_readsReferrers_30 rfl (by decide) ?_
          refine VW.zast (pc' := 32) d_Model_readsReferrers_31 rfl (hM.k rfl) (by omega) (by omega) (by omega) ?_
          refine VW.nrm ?_
          first | rw [mReadsRefs_yes hq c15] | rw [← mReadsRefs_no (n := k) c15]
          refine VW.iinc (pc' := 35) d_Model_readsReferrers_32 rfl rfl rfl (by omega) ?_
          refine VW.goto (pc' := 2) d_Model_readsReferrers_35 rfl ?_
          refine VW.nrm ?_
          exact ih (k + 1) (by omega) (by omega)
  refine VW.iconst (pc' := 1) d_Model_readsReferrers_0 rfl (by decide) ?_
  refine VW.istore_n (pc' := 2) d_Model_readsReferrers_1 rfl rfl ?_
  refine VW.nrm ?_
  have h := loop 24 0 (by omega) (by omega)
  rw [mReadsRefs_0] at h
  exact h
/-- record j is a WRITE of another open transaction, of that row -/
def mWrOf (I : IT) (i t key j : Int) : Prop := I 246 j = 0 ∧ I 247 j ≠ i ∧ I 221 (I 247 j) < 2 ∧ I 248 j = t ∧ I 249 j = key
noncomputable def mWriter (I : IT) (i t key : Int) : Nat → Int
  | 0 => -1
  | n + 1 => @ite Int (mWrOf I i t key n) (Classical.propDecidable _) (I 247 n) (mWriter I i t key n)
theorem mWriter_1 {I : IT} {i t key : Int} {n : Nat} (h : mWrOf I i t key n) : mWriter I i t key (n + 1) = I 247 n := @if_pos _ (Classical.propDecidable _) h _ _ _
theorem mWriter_0 {I : IT} {i t key : Int} {n : Nat} (h : ¬ mWrOf I i t key n) : mWriter I i t key (n + 1) = mWriter I i t key n := @if_neg _ (Classical.propDecidable _) h _ _ _
theorem sp_Model_writer {i t key : Int} (hM : MW K P) (h0 : 0 ≤ I 100 44 ∧ I 100 44 ≤ 16384) (hw : ∀ j, 0 ≤ j → j < I 100 44 → I 246 j = 0 → 0 ≤ I 247 j ∧ I 247 j < 60) : Sp m_Model_writer false (rmv 0 0) (ex K P J I (.inl (some (vI (mWriter I i t key (I 100 44).toNat))))) K P J I [vR (some 100), vI i, vI t, vI key] := by
  refine Sp.ofV (by decide) (Or.inr rfl) rfl ?_
  have loop : ∀ (n : Nat) (m : Nat) (k f : Int), m + n = I 100 44 → k = m → f = mWriter I i t key m → VW m_Model_writer false (rmv 0 0) (ex K P J I (.inl (some (vI (mWriter I i t key (I 100 44).toNat))))) K P J I 0 0 6 [(0, vR (some 100)), (1, vI i), (2, vI t), (3, vI key), (4, vI f), (5, vI k)] [] := by
    intro n
    induction n with
    | zero =>
      intro m k f hk hkm hf
      subst hkm
      refine VW.iload (pc' := 8) d_Model_writer_6 rfl rfl ?_
      refine VW.aload_n (pc' := 9) d_Model_writer_8 rfl rfl ?_
      refine VW.gI (ci := 11) (T := T11) (N := 94) (k := 44) (k' := 44) (pc' := 12) d_Model_writer_9 rfl lk_Model_294 in11 rfl rfl rfl rfl (hM.k rfl) (by first | assumption | (simp [up2] <;> rfl) | rfl) ?_
      refine VW.icmp_ge (tgt := 106) (pc' := 15) d_Model_writer_12 rfl rfl (fun c12 => ?_) (fun c12 => ?_)
      · refine VW.iload (pc' := 108) d_Model_writer_106 rfl rfl ?_
        exact VW.iret d_Model_writer_108 rfl rfl (Nat.zero_le _) (Nat.zero_le _) (by rw [show (I 100 44).toNat = m by omega, ← hf]; exact ex_rf)
      · exfalso; omega
    | succ n ih =>
      intro m k f hk hkm hf
      subst hkm
      have w0 := hw m (by omega) (by omega)
      refine VW.iload (pc' := 8) d_Model_writer_6 rfl rfl ?_
      refine VW.aload_n (pc' := 9) d_Model_writer_8 rfl rfl ?_
      refine VW.gI (ci := 11) (T := T11) (N := 94) (k := 44) (k' := 44) (pc' := 12) d_Model_writer_9 rfl lk_Model_294 in11 rfl rfl rfl rfl (hM.k rfl) (by first | assumption | (simp [up2] <;> rfl) | rfl) ?_
      refine VW.icmp_ge (tgt := 106) (pc' := 15) d_Model_writer_12 rfl rfl (fun c12 => ?_) (fun c12 => ?_)
      · exfalso; omega
      · refine VW.aload_n (pc' := 16) d_Model_writer_15 rfl rfl ?_
        refine VW.gP (ci := 11) (T := T11) (N := 94) (k := 46) (k' := 46) (pc' := 19) d_Model_writer_16 rfl lk_Model_126 in11 rfl rfl rfl rfl (hM.k rfl) (hM.p (r := some 246) 46 rfl rfl) ?_
        refine VW.iload (pc' := 21) d_Model_writer_19 rfl rfl ?_
        refine VW.ild (pc' := 22) d_Model_writer_21 rfl (hM.k rfl) (by omega) (by omega) (by first | assumption | (simp [up2] <;> rfl) | rfl) ?_
        refine VW.if_ne (tgt := 78) (pc' := 25) d_Model_writer_22 rfl rfl (fun c22 => ?_) (fun c22 => ?_)
        · try have e22 := bIn c22
          refine VW.iconst (pc' := 79) d_Model_writer_78 rfl (by decide) ?_
          refine VW.istore (pc' := 81) d_Model_writer_79 rfl rfl ?_
          refine VW.iload (pc' := 83) d_Model_writer_81 rfl rfl ?_
          refine VW.if_eq (tgt := 96) (pc' := 86) d_Model_writer_83 rfl rfl (fun _ => ?_) (fun c83 => absurd c83 (by decide))
          refine VW.iload (pc' := 98) d_Model_writer_96 rfl rfl ?_
          refine VW.istore (pc' := 100) d_Model_writer_98 rfl rfl ?_
          refine VW.iinc (pc' := 103) d_Model_writer_100 rfl rfl rfl (by omega) ?_
          refine VW.goto (pc' := 6) d_Model_writer_103 rfl ?_
          refine VW.pick [0, 1, 2, 3, 4, 5] ?_
          exact ih (m + 1) (m + 1) _ (by omega) (by omega) (by first | exact (mWriter_1 ⟨c22, c33, c49, c60, c71⟩).symm | (rw [hf]; exact (mWriter_0 (by rintro ⟨z1, z2, z3, z4, z5⟩; first | exact c22 z1 | exact z2 c33 | omega | exact c60 z4 | exact c71 z5)).symm))
        · try have e22 := bIe c22
          refine VW.aload_n (pc' := 26) d_Model_writer_25 rfl rfl ?_
          refine VW.gP (ci := 11) (T := T11) (N := 94) (k := 47) (k' := 47) (pc' := 29) d_Model_writer_26 rfl lk_Model_129 in11 rfl rfl rfl rfl (hM.k rfl) (hM.p (r := some 247) 47 rfl rfl) ?_
          refine VW.iload (pc' := 31) d_Model_writer_29 rfl rfl ?_
          refine VW.ild (pc' := 32) d_Model_writer_31 rfl (hM.k rfl) (by omega) (by omega) (by first | assumption | (simp [up2] <;> rfl) | rfl) ?_
          refine VW.iload_n (pc' := 33) d_Model_writer_32 rfl rfl ?_
          refine VW.icmp_eq (tgt := 78) (pc' := 36) d_Model_writer_33 rfl rfl (fun c33 => ?_) (fun c33 => ?_)
          · refine VW.iconst (pc' := 79) d_Model_writer_78 rfl (by decide) ?_
            refine VW.istore (pc' := 81) d_Model_writer_79 rfl rfl ?_
            refine VW.iload (pc' := 83) d_Model_writer_81 rfl rfl ?_
            refine VW.if_eq (tgt := 96) (pc' := 86) d_Model_writer_83 rfl rfl (fun _ => ?_) (fun c83 => absurd c83 (by decide))
            refine VW.iload (pc' := 98) d_Model_writer_96 rfl rfl ?_
            refine VW.istore (pc' := 100) d_Model_writer_98 rfl rfl ?_
            refine VW.iinc (pc' := 103) d_Model_writer_100 rfl rfl rfl (by omega) ?_
            refine VW.goto (pc' := 6) d_Model_writer_103 rfl ?_
            refine VW.pick [0, 1, 2, 3, 4, 5] ?_
            exact ih (m + 1) (m + 1) _ (by omega) (by omega) (by first | exact (mWriter_1 ⟨c22, c33, c49, c60, c71⟩).symm | (rw [hf]; exact (mWriter_0 (by rintro ⟨z1, z2, z3, z4, z5⟩; first | exact c22 z1 | exact z2 c33 | omega | exact c60 z4 | exact c71 z5)).symm))
          · refine VW.aload_n (pc' := 37) d_Model_writer_36 rfl rfl ?_
            refine VW.gP (ci := 11) (T := T11) (N := 94) (k := 21) (k' := 21) (pc' := 40) d_Model_writer_37 rfl lk_Model_61 in11 rfl rfl rfl rfl (hM.k rfl) (hM.p (r := some 221) 21 rfl rfl) ?_
            refine VW.aload_n (pc' := 41) d_Model_writer_40 rfl rfl ?_
            refine VW.gP (ci := 11) (T := T11) (N := 94) (k := 47) (k' := 47) (pc' := 44) d_Model_writer_41 rfl lk_Model_129 in11 rfl rfl rfl rfl (hM.k rfl) (hM.p (r := some 247) 47 rfl rfl) ?_
            refine VW.iload (pc' := 46) d_Model_writer_44 rfl rfl ?_
            refine VW.ild (pc' := 47) d_Model_writer_46 rfl (hM.k rfl) (by omega) (by omega) (by first | assumption | (simp [up2] <;> rfl) | rfl) ?_
            refine VW.ild (pc' := 48) d_Model_writer_47 rfl (hM.k rfl) (by omega) (by omega) (by first | assumption | (simp [up2] <;> rfl) | rfl) ?_
            refine VW.iconst (pc' := 49) d_Model_writer_48 rfl (by decide) ?_
            refine VW.icmp_ge (tgt := 78) (pc' := 52) d_Model_writer_49 rfl rfl (fun c49 => ?_) (fun c49 => ?_)
            · refine VW.iconst (pc' := 79) d_Model_writer_78 rfl (by decide) ?_
              refine VW.istore (pc' := 81) d_Model_writer_79 rfl rfl ?_
              refine VW.iload (pc' := 83) d_Model_writer_81 rfl rfl ?_
              refine VW.if_eq (tgt := 96) (pc' := 86) d_Model_writer_83 rfl rfl (fun _ => ?_) (fun c83 => absurd c83 (by decide))
              refine VW.iload (pc' := 98) d_Model_writer_96 rfl rfl ?_
              refine VW.istore (pc' := 100) d_Model_writer_98 rfl rfl ?_
              refine VW.iinc (pc' := 103) d_Model_writer_100 rfl rfl rfl (by omega) ?_
              refine VW.goto (pc' := 6) d_Model_writer_103 rfl ?_
              refine VW.pick [0, 1, 2, 3, 4, 5] ?_
              exact ih (m + 1) (m + 1) _ (by omega) (by omega) (by first | exact (mWriter_1 ⟨c22, c33, c49, c60, c71⟩).symm | (rw [hf]; exact (mWriter_0 (by rintro ⟨z1, z2, z3, z4, z5⟩; first | exact c22 z1 | exact z2 c33 | omega | exact c60 z4 | exact c71 z5)).symm))
            · refine VW.aload_n (pc' := 53) d_Model_writer_52 rfl rfl ?_
              refine VW.gP (ci := 11) (T := T11) (N := 94) (k := 48) (k' := 48) (pc' := 56) d_Model_writer_53 rfl lk_Model_132 in11 rfl rfl rfl rfl (hM.k rfl) (hM.p (r := some 248) 48 rfl rfl) ?_
              refine VW.iload (pc' := 58) d_Model_writer_56 rfl rfl ?_
              refine VW.ild (pc' := 59) d_Model_writer_58 rfl (hM.k rfl) (by omega) (by omega) (by first | assumption | (simp [up2] <;> rfl) | rfl) ?_
              refine VW.iload_n (pc' := 60) d_Model_writer_59 rfl rfl ?_
              refine VW.icmp_ne (tgt := 78) (pc' := 63) d_Model_writer_60 rfl rfl (fun c60 => ?_) (fun c60 => ?_)
              · refine VW.iconst (pc' := 79) d_Model_writer_78 rfl (by decide) ?_
                refine VW.istore (pc' := 81) d_Model_writer_79 rfl rfl ?_
                refine VW.iload (pc' := 83) d_Model_writer_81 rfl rfl ?_
                refine VW.if_eq (tgt := 96) (pc' := 86) d_Model_writer_83 rfl rfl (fun _ => ?_) (fun c83 => absurd c83 (by decide))
                refine VW.iload (pc' := 98) d_Model_writer_96 rfl rfl ?_
                refine VW.istore (pc' := 100) d_Model_writer_98 rfl rfl ?_
                refine VW.iinc (pc' := 103) d_Model_writer_100 rfl rfl rfl (by omega) ?_
                refine VW.goto (pc' := 6) d_Model_writer_103 rfl ?_
                refine VW.pick [0, 1, 2, 3, 4, 5] ?_
                exact ih (m + 1) (m + 1) _ (by omega) (by omega) (by first | exact (mWriter_1 ⟨c22, c33, c49, c60, c71⟩).symm | (rw [hf]; exact (mWriter_0 (by rintro ⟨z1, z2, z3, z4, z5⟩; first | exact c22 z1 | exact z2 c33 | omega | exact c60 z4 | exact c71 z5)).symm))
              · refine VW.aload_n (pc' := 64) d_Model_writer_63 rfl rfl ?_
                refine VW.gP (ci := 11) (T := T11) (N := 94) (k := 49) (k' := 49) (pc' := 67) d_Model_writer_64 rfl lk_Model_135 in11 rfl rfl rfl rfl (hM.k rfl) (hM.p (r := some 249) 49 rfl rfl) ?_
                refine VW.iload (pc' := 69) d_Model_writer_67 rfl rfl ?_
                refine VW.ild (pc' := 70) d_Model_writer_69 rfl (hM.k rfl) (by omega) (by omega) (by first | assumption | (simp [up2] <;> rfl) | rfl) ?_
                refine VW.iload_n (pc' := 71) d_Model_writer_70 rfl rfl ?_
                refine VW.icmp_ne (tgt := 78) (pc' := 74) d_Model_writer_71 rfl rfl (fun c71 => ?_) (fun c71 => ?_)
                · refine VW.iconst (pc' := 79) d_Model_writer_78 rfl (by decide) ?_
                  refine VW.istore (pc' := 81) d_Model_writer_79 rfl rfl ?_
                  refine VW.iload (pc' := 83) d_Model_writer_81 rfl rfl ?_
                  refine VW.if_eq (tgt := 96) (pc' := 86) d_Model_writer_83 rfl rfl (fun _ => ?_) (fun c83 => absurd c83 (by decide))
                  refine VW.iload (pc' := 98) d_Model_writer_96 rfl rfl ?_
                  refine VW.istore (pc' := 100) d_Model_writer_98 rfl rfl ?_
                  refine VW.iinc (pc' := 103) d_Model_writer_100 rfl rfl rfl (by omega) ?_
                  refine VW.goto (pc' := 6) d_Model_writer_103 rfl ?_
                  refine VW.pick [0, 1, 2, 3, 4, 5] ?_
                  exact ih (m + 1) (m + 1) _ (by omega) (by omega) (by first | exact (mWriter_1 ⟨c22, c33, c49, c60, c71⟩).symm | (rw [hf]; exact (mWriter_0 (by rintro ⟨z1, z2, z3, z4, z5⟩; first | exact c22 z1 | exact z2 c33 | omega | exact c60 z4 | exact c71 z5)).symm))
                · refine VW.iconst (pc' := 75) d_Model_writer_74 rfl (by decide) ?_
                  refine VW.goto (pc' := 79) d_Model_writer_75 rfl ?_
                  refine VW.istore (pc' := 81) d_Model_writer_79 rfl rfl ?_
                  refine VW.iload (pc' := 83) d_Model_writer_81 rfl rfl ?_
                  refine VW.if_eq (tgt := 96) (pc' := 86) d_Model_writer_83 rfl rfl (fun c83 => absurd c83 (by decide)) (fun _ => ?_)
                  refine VW.aload_n (pc' := 87) d_Model_writer_86 rfl rfl ?_
                  refine VW.gP (ci := 11) (T := T11) (N := 94) (k := 47) (k' := 47) (pc' := 90) d_Model_writer_87 rfl lk_Model_129 in11 rfl rfl rfl rfl (hM.k rfl) (hM.p (r := some 247) 47 rfl rfl) ?_
                  refine VW.iload (pc' := 92) d_Model_writer_90 rfl rfl ?_
                  refine VW.ild (pc' := 93) d_Model_writer_92 rfl (hM.k rfl) (by omega) (by omega) (by first | assumption | (simp [up2] <;> rfl) | rfl) ?_
                  refine VW.goto (pc' := 98) d_Model_writer_93 rfl ?_
                  refine VW.istore (pc' := 100) d_Model_writer_98 rfl rfl ?_
                  refine VW.iinc (pc' := 103) d_Model_writer_100 rfl rfl rfl (by omega) ?_
                  refine VW.goto (pc' := 6) d_Model_writer_103 rfl ?_
                  refine VW.pick [0, 1, 2, 3, 4, 5] ?_
                  exact ih (m + 1) (m + 1) _ (by omega) (by omega) (by first | exact (mWriter_1 ⟨c22, c33, c49, c60, c71⟩).symm | (rw [hf]; exact (mWriter_0 (by rintro ⟨z1, z2, z3, z4, z5⟩; first | exact c22 z1 | exact z2 c33 | omega | exact c60 z4 | exact c71 z5)).symm))
  refine VW.iconst (pc' := 1) d_Model_writer_0 rfl (by decide) ?_
  refine VW.istore (pc' := 3) d_Model_writer_1 rfl rfl ?_
  refine VW.iconst (pc' := 4) d_Model_writer_3 rfl (by decide) ?_
  refine VW.istore (pc' := 6) d_Model_writer_4 rfl rfl ?_
  refine VW.nrm ?_
  exact loop (I 100 44).toNat 0 0 (-1) (by omega) rfl rfl
end
