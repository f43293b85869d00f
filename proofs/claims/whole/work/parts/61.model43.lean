section
variable {K : KT} {P : PT} {J I : IT} {Q : PQ}
theorem sp_Model_isFilter {o : Int} : Sp m_Model_isFilter false (rmv 0 0) (ex K P J I (.inl (some (vI (bI (o = 1 ∨ o = 2)))))) K P J I [vI o] := by
  refine Sp.ofV (by decide) (Or.inr rfl) rfl ?_
  refine VW.iload_n (pc' := 1) d_Model_isFilter_0 rfl rfl ?_
  refine VW.iconst (pc' := 2) d_Model_isFilter_1 rfl (by decide) ?_
  refine VW.icmp_eq (tgt := 10) (pc' := 5) d_Model_isFilter_2 rfl rfl (fun c2 => ?_) (fun c2 => ?_)
  · refine VW.iconst (pc' := 11) d_Model_isFilter_10 rfl (by decide) ?_
    refine VW.goto (pc' := 15) d_Model_isFilter_11 rfl ?_
    exact VW.iret d_Model_isFilter_15 rfl rfl (Nat.zero_le _) (Nat.zero_le _) (by first | exact ex_v (bI1 (Or.inl c2)) | exact ex_v (bI1 (Or.inr c7)) | exact ex_v (bI0 (fun z => z.elim c2 c7)))
  · refine VW.iload_n (pc' := 6) d_Model_isFilter_5 rfl rfl ?_
    refine VW.iconst (pc' := 7) d_Model_isFilter_6 rfl (by decide) ?_
    refine VW.icmp_ne (tgt := 14) (pc' := 10) d_Model_isFilter_7 rfl rfl (fun c7 => ?_) (fun c7 => ?_)
    · refine VW.iconst (pc' := 15) d_Model_isFilter_14 rfl (by decide) ?_
      exact VW.iret d_Model_isFilter_15 rfl rfl (Nat.zero_le _) (Nat.zero_le _) (by first | exact ex_v (bI1 (Or.inl c2)) | exact ex_v (bI1 (Or.inr c7)) | exact ex_v (bI0 (fun z => z.elim c2 c7)))
    · refine VW.iconst (pc' := 11) d_Model_isFilter_10 rfl (by decide) ?_
      refine VW.goto (pc' := 15) d_Model_isFilter_11 rfl ?_
      exact VW.iret d_Model_isFilter_15 rfl rfl (Nat.zero_le _) (Nat.zero_le _) (by first | exact ex_v (bI1 (Or.inl c2)) | exact ex_v (bI1 (Or.inr c7)) | exact ex_v (bI0 (fun z => z.elim c2 c7)))
def mInner (I : IT) (x : Int) : Prop := I 256 x = 4 ∧ I 257 x = 0
theorem sp_Model_isInner {q n : Int} (hM : MW K P) (hq : 0 ≤ q ∧ q < 20) (hn : 0 ≤ n ∧ n < 12) : Sp m_Model_isInner false (rmv 1 20) (ex K P J I (.inl (some (vI (bI (mInner I (12 * (q + 1) + n))))))) K P J I [vR (some 100), vI q, vI n] := by
  refine Sp.ofV (by decide) (Or.inr rfl) rfl ?_
  refine VW.aload_n (pc' := 1) d_Model_isInner_0 rfl rfl ?_
  refine VW.gP (ci := 11) (T := T11) (N := 94) (k := 56) (k' := 56) (pc' := 4) d_Model_isInner_1 rfl lk_Model_144 in11 rfl rfl rfl rfl (hM.k rfl) (hM.p (r := some 256) 56 rfl rfl) ?_
  refine VW.iload_n (pc' := 5) d_Model_isInner_4 rfl rfl ?_
  refine VW.cS (pc' := 8) d_Model_isInner_5 rfl ms_Model_base lk_Model_431 rfl rfl rfl (Nat.le_refl _) (Nat.le_refl _) (sp_Model_base (by omega)) rfl rfl ?_
  refine VW.iload_n (pc' := 9) d_Model_isInner_8 rfl rfl ?_
  refine VW.iadd (pc' := 10) d_Model_isInner_9 rfl (by omega) ?_
  refine VW.ild (pc' := 11) d_Model_isInner_10 rfl (hM.k rfl) (by omega) (by omega) (rfl) ?_
  refine VW.iconst (pc' := 12) d_Model_isInner_11 rfl (by decide) ?_
  refine VW.icmp_ne (tgt := 33) (pc' := 15) d_Model_isInner_12 rfl rfl (fun c12 => ?_) (fun c12 => ?_)
  · refine VW.iconst (pc' := 34) d_Model_isInner_33 rfl (by decide) ?_
    exact VW.iret d_Model_isInner_34 rfl rfl (Nat.zero_le _) (Nat.zero_le _) (by first | exact ex_v (bI1 ⟨c12, c26⟩) | exact ex_v (bI0 (fun z => c12 z.1)) | exact ex_v (bI0 (fun z => c26 z.2)))
  · refine VW.aload_n (pc' := 16) d_Model_isInner_15 rfl rfl ?_
    refine VW.gP (ci := 11) (T := T11) (N := 94) (k := 57) (k' := 57) (pc' := 19) d_Model_isInner_16 rfl lk_Model_147 in11 rfl rfl rfl rfl (hM.k rfl) (hM.p (r := some 257) 57 rfl rfl) ?_
    refine VW.iload_n (pc' := 20) d_Model_isInner_19 rfl rfl ?_
    refine VW.cS (pc' := 23) d_Model_isInner_20 rfl ms_Model_base lk_Model_431 rfl rfl rfl (Nat.le_refl _) (Nat.le_refl _) (sp_Model_base (by omega)) rfl rfl ?_
    refine VW.iload_n (pc' := 24) d_Model_isInner_23 rfl rfl ?_
    refine VW.iadd (pc' := 25) d_Model_isInner_24 rfl (by omega) ?_
    refine VW.ild (pc' := 26) d_Model_isInner_25 rfl (hM.k rfl) (by omega) (by omega) (rfl) ?_
    refine VW.if_ne (tgt := 33) (pc' := 29) d_Model_isInner_26 rfl rfl (fun c26 => ?_) (fun c26 => ?_)
    · try have e26 := bIn c26
      refine VW.iconst (pc' := 34) d_Model_isInner_33 rfl (by decide) ?_
      exact VW.iret d_Model_isInner_34 rfl rfl (Nat.zero_le _) (Nat.zero_le _) (by first | exact ex_v (bI1 ⟨c12, c26⟩) | exact ex_v (bI0 (fun z => c12 z.1)) | exact ex_v (bI0 (fun z => c26 z.2)))
    · try have e26 := bIe c26
      refine VW.iconst (pc' := 30) d_Model_isInner_29 rfl (by decide) ?_
      refine VW.goto (pc' := 34) d_Model_isInner_30 rfl ?_
      exact VW.iret d_Model_isInner_34 rfl rfl (Nat.zero_le _) (Nat.zero_le _) (by first | exact ex_v (bI1 ⟨c12, c26⟩) | exact ex_v (bI0 (fun z => c12 z.1)) | exact ex_v (bI0 (fun z => c26 z.2)))
/-- an operator that a view may have -/
def mVwG (I : IT) (q : Int) (n k : Int) : Prop := I 256 (12 * (q + 1) + k) = 0 ∨ (I 256 (12 * (q + 1) + k) = 1 ∨ I 256 (12 * (q + 1) + k) = 2) ∨ mInner I (12 * (q + 1) + k) ∨ I 256 (12 * (q + 1) + k) = 5 ∨ (I 256 (12 * (q + 1) + k) = 6 ∧ k = n - 1 ∧ I 257 (12 * (q + 1) + k) ≠ -1 ∧ I 258 (12 * (q + 1) + k) ≤ 1)
def mVw (I : IT) (q : Int) : Prop := ∀ k, 0 ≤ k → k < I 262 q → mVwG I q (I 262 q) k
theorem sp_Model_canBeView {q : Int} (hM : MW K P) (hq : 0 ≤ q ∧ q < 20) (hn : 0 ≤ I 262 q ∧ I 262 q ≤ 12) : Sp m_Model_canBeView false (rmv 2 42) (ex K P J I (.inl (some (vI (bI (mVw I q)))))) K P J I [vR (some 100), vI q] := by
  refine Sp.ofV (by decide) (Or.inr rfl) rfl ?_
  have loop : ∀ (l : Nat) (k is : Int), k + l = I 262 q → 0 ≤ k → andI (mVwG I q (I 262 q)) 0 k is → VW m_Model_canBeView false (rmv 2 42) (ex K P J I (.inl (some (vI (bI (mVw I q)))))) K P J I 0 0 4 [(0, vR (some 100)), (1, vI q), (2, vI is), (3, vI k)] [] := by
    intro l
    induction l with
    | zero =>
      intro k is hk h0 ha
      have ek : I 262 q = k := by omega
      have hb := ha.bI
      have fin : is = bI (mVw I q) := by unfold mVw; rw [ek]; rw [ek] at hb; exact hb
      refine VW.iload_n (pc' := 5) d_Model_canBeView_4 rfl rfl ?_
      refine VW.aload_n (pc' := 6) d_Model_canBeView_5 rfl rfl ?_
      refine VW.gP (ci := 11) (T := T11) (N := 94) (k := 62) (k' := 62) (pc' := 9) d_Model_canBeView_6 rfl lk_Model_159 in11 rfl rfl rfl rfl (hM.k rfl) (hM.p (r := some 262) 62 rfl rfl) ?_
      refine VW.iload_n (pc' := 10) d_Model_canBeView_9 rfl rfl ?_
      refine VW.ild (pc' := 11) d_Model_canBeView_10 rfl (hM.k rfl) (by omega) (by omega) (rfl) ?_
      refine VW.icmp_ge (tgt := 151) (pc' := 14) d_Model_canBeView_11 rfl rfl (fun c11 => ?_) (fun c11 => ?_)
      · refine VW.iload_n (pc' := 152) d_Model_canBeView_151 rfl rfl ?_
        exact VW.iret d_Model_canBeView_152 rfl (narZ ha.h01) (Nat.zero_le _) (Nat.zero_le _) (by rw [← fin]; exact ex_rf)
      · exfalso; omega
    | succ l ih =>
      intro k is hk h0 ha
      have keep := fun (z : is = 0) => ih (k + 1) 0 (by omega) (by omega) (ha.keep z)
      have yes := fun (z : is ≠ 0) (g : mVwG I q (I 262 q) k) => ih (k + 1) 1 (by omega) (by omega) (ha.yes z g)
      have no := fun (g : ¬ mVwG I q (I 262 q) k) => ih (k + 1) 0 (by omega) (by omega) (andI.no h0 g)
      have n1 : I 256 (12 * (q + 1) + k) ≠ 0 → ¬ (I 256 (12 * (q + 1) + k) = 1 ∨ I 256 (12 * (q + 1) + k) = 2) → ¬ mInner I (12 * (q + 1) + k) → I 256 (12 * (q + 1) + k) ≠ 5 → ¬ (I 256 (12 * (q + 1) + k) = 6 ∧ k = I 262 q - 1 ∧ I 257 (12 * (q + 1) + k) ≠ -1 ∧ I 258 (12 * (q + 1) + k) ≤ 1) → VW m_Model_canBeView false (rmv 2 42) (ex K P J I (.inl (some (vI (bI (mVw I q)))))) K P J I 0 0 4 [(0, vR (some 100)), (1, vI q), (2, vI 0), (3, vI (k + 1))] [] := fun a b c d e => no (fun y => by rcases y with y | y | y | y | y; exact a y; exact b y; exact c y; exact d y; exact e y)
      clear ih no
      have t87 : ∀ g : Int, (g ≠ 0 → (I 256 (12 * (q + 1) + k) = 6 ∧ k = I 262 q - 1 ∧ I 257 (12 * (q + 1) + k) ≠ -1 ∧ I 258 (12 * (q + 1) + k) ≤ 1)) → (g = 0 → ¬ (I 256 (12 * (q + 1) + k) = 6 ∧ k = I 262 q - 1 ∧ I 257 (12 * (q + 1) + k) ≠ -1 ∧ I 258 (12 * (q + 1) + k) ≤ 1)) → ∀ z : Int, VW m_Model_canBeView false (rmv 2 42) (ex K P J I (.inl (some (vI (bI (mVw I q)))))) K P J I 0 0 87 [(0, vR (some 100)), (1, vI q), (2, vI is), (3, vI k), (4, vI (12 * (q + 1) + k)), (5, vI z), (6, vI g)] [] := by
        intro g hg hg0 z
        refine VW.iload_n (pc' := 88) d_Model_canBeView_87 rfl rfl ?_
        refine VW.if_eq (tgt := 143) (pc' := 91) d_Model_canBeView_88 rfl rfl (fun c88 => ?_) (fun c88 => ?_)
        · try have e88 := bIe c88
          refine VW.iconst (pc' := 144) d_Model_canBeView_143 rfl (by decide) ?_
          refine VW.istore_n (pc' := 145) d_Model_canBeView_144 rfl rfl ?_
          refine VW.iinc (pc' := 148) d_Model_canBeView_145 rfl rfl rfl (by omega) ?_
          refine VW.goto (pc' := 4) d_Model_canBeView_148 rfl ?_
          refine VW.pick [0, 1, 2, 3] ?_
          first | exact keep c88 | exact yes c88 (Or.inl c98) | exact yes c88 (Or.inr (Or.inl e111)) | exact yes c88 (Or.inr (Or.inr (Or.inl e120))) | exact yes c88 (Or.inr (Or.inr (Or.inr (Or.inl c131)))) | exact yes c88 (Or.inr (Or.inr (Or.inr (Or.inr (hg c136))))) | exact n1 c98 e111 e120 c131 (hg0 c136)
        · try have e88 := bIn c88
          refine VW.aload_n (pc' := 92) d_Model_canBeView_91 rfl rfl ?_
          refine VW.gP (ci := 11) (T := T11) (N := 94) (k := 56) (k' := 56) (pc' := 95) d_Model_canBeView_92 rfl lk_Model_144 in11 rfl rfl rfl rfl (hM.k rfl) (hM.p (r := some 256) 56 rfl rfl) ?_
          refine VW.iload (pc' := 97) d_Model_canBeView_95 rfl rfl ?_
          refine VW.ild (pc' := 98) d_Model_canBeView_97 rfl (hM.k rfl) (by omega) (by omega) (rfl) ?_
          refine VW.if_eq (tgt := 139) (pc' := 101) d_Model_canBeView_98 rfl rfl (fun c98 => ?_) (fun c98 => ?_)
          · try have e98 := bIe c98
            refine VW.iconst (pc' := 140) d_Model_canBeView_139 rfl (by decide) ?_
            refine VW.goto (pc' := 144) d_Model_canBeView_140 rfl ?_
            refine VW.istore_n (pc' := 145) d_Model_canBeView_144 rfl rfl ?_
            refine VW.iinc (pc' := 148) d_Model_canBeView_145 rfl rfl rfl (by omega) ?_
            refine VW.goto (pc' := 4) d_Model_canBeView_148 rfl ?_
            refine VW.pick [0, 1, 2, 3] ?_
            first | exact keep c88 | exact yes c88 (Or.inl c98) | exact yes c88 (Or.inr (Or.inl e111)) | exact yes c88 (Or.inr (Or.inr (Or.inl e120))) | exact yes c88 (Or.inr (Or.inr (Or.inr (Or.inl c131)))) | exact yes c88 (Or.inr (Or.inr (Or.inr (Or.inr (hg c136))))) | exact n1 c98 e111 e120 c131 (hg0 c136)
          · try have e98 := bIn c98
            refine VW.aload_n (pc' := 102) d_Model_canBeView_101 rfl rfl ?_
            refine VW.gP (ci := 11) (T := T11) (N := 94) (k := 56) (k' := 56) (pc' := 105) d_Model_canBeView_102 rfl lk_Model_144 in11 rfl rfl rfl rfl (hM.k rfl) (hM.p (r := some 256) 56 rfl rfl) ?_
            refine VW.iload (pc' := 107) d_Model_canBeView_105 rfl rfl ?_
            refine VW.ild (pc' := 108) d_Model_canBeView_107 rfl (hM.k rfl) (by omega) (by omega) (rfl) ?_
            refine VW.cS (pc' := 111) d_Model_canBeView_108 rfl ms_Model_isFilter lk_Model_504 rfl rfl rfl (Nat.le_refl _) (Nat.le_refl _) (sp_Model_isFilter) rfl rfl ?_
            refine VW.if_ne (tgt := 139) (pc' := 114) d_Model_canBeView_111 rfl rfl (fun c111 => ?_) (fun c111 => ?_)
            · try have e111 := bIn c111
              refine VW.iconst (pc' := 140) d_Model_canBeView_139 rfl (by decide) ?_
              refine VW.goto (pc' := 144) d_Model_canBeView_140 rfl ?_
              refine VW.istore_n (pc' := 145) d_Model_canBeView_144 rfl rfl ?_
              refine VW.iinc (pc' := 148) d_Model_canBeView_145 rfl rfl rfl (by omega) ?_
              refine VW.goto (pc' := 4) d_Model_canBeView_148 rfl ?_
              refine VW.pick [0, 1, 2, 3] ?_
              first | exact keep c88 | exact yes c88 (Or.inl c98) | exact yes c88 (Or.inr (Or.inl e111)) | exact yes c88 (Or.inr (Or.inr (Or.inl e120))) | exact yes c88 (Or.inr (Or.inr (Or.inr (Or.inl c131)))) | exact yes c88 (Or.inr (Or.inr (Or.inr (Or.inr (hg c136))))) | exact n1 c98 e111 e120 c131 (hg0 c136)
            · try have e111 := bIe c111
              refine VW.aload_n (pc' := 115) d_Model_canBeView_114 rfl rfl ?_
              refine VW.iload_n (pc' := 116) d_Model_canBeView_115 rfl rfl ?_
              refine VW.iload_n (pc' := 117) d_Model_canBeView_116 rfl rfl ?_
              refine VW.cV (ci := 11) (T := T11) (N := 94) (pc' := 120) d_Model_canBeView_117 rfl mv_Model_isInner lk_Model_507 rfl (hM.k rfl) rfl rfl rfl (Nat.le_refl _) (Nat.le_refl _) (sp_Model_isInner hM hq (by omega)) rfl rfl ?_
              refine VW.if_ne (tgt := 139) (pc' := 123) d_Model_canBeView_120 rfl rfl (fun c120 => ?_) (fun c120 => ?_)
              · try have e120 := bIn c120
                refine VW.iconst (pc' := 140) d_Model_canBeView_139 rfl (by decide) ?_
                refine VW.goto (pc' := 144) d_Model_canBeView_140 rfl ?_
                refine VW.istore_n (pc' := 145) d_Model_canBeView_144 rfl rfl ?_
                refine VW.iinc (pc' := 148) d_Model_canBeView_145 rfl rfl rfl (by omega) ?_
                refine VW.goto (pc' := 4) d_Model_canBeView_148 rfl ?_
                refine VW.pick [0, 1, 2, 3] ?_
                first | exact keep c88 | exact yes c88 (Or.inl c98) | exact yes c88 (Or.inr (Or.inl e111)) | exact yes c88 (Or.inr (Or.inr (Or.inl e120))) | exact yes c88 (Or.inr (Or.inr (Or.inr (Or.inl c131)))) | exact yes c88 (Or.inr (Or.inr (Or.inr (Or.inr (hg c136))))) | exact n1 c98 e111 e120 c131 (hg0 c136)
              · try have e120 := bIe c120
                refine VW.aload_n (pc' := 124) d_Model_canBeView_123 rfl rfl ?_
                refine VW.gP (ci := 11) (T := T11) (N := 94) (k := 56) (k' := 56) (pc' := 127) d_Model_canBeView_124 rfl lk_Model_144 in11 rfl rfl rfl rfl (hM.k rfl) (hM.p (r := some 256) 56 rfl rfl) ?_
                refine VW.iload (pc' := 129) d_Model_canBeView_127 rfl rfl ?_
                refine VW.ild (pc' := 130) d_Model_canBeView_129 rfl (hM.k rfl) (by omega) (by omega) (rfl) ?_
                refine VW.iconst (pc' := 131) d_Model_canBeView_130 rfl (by decide) ?_
                refine VW.icmp_eq (tgt := 139) (pc' := 134) d_Model_canBeView_131 rfl rfl (fun c131 => ?_) (fun c131 => ?_)
                · refine VW.iconst (pc' := 140) d_Model_canBeView_139 rfl (by decide) ?_
                  refine VW.goto (pc' := 144) d_Model_canBeView_140 rfl ?_
                  refine VW.istore_n (pc' := 145) d_Model_canBeView_144 rfl rfl ?_
                  refine VW.iinc (pc' := 148) d_Model_canBeView_145 rfl rfl rfl (by omega) ?_
                  refine VW.goto (pc' := 4) d_Model_canBeView_148 rfl ?_
                  refine VW.pick [0, 1, 2, 3] ?_
                  first | exact keep c88 | exact yes c88 (Or.inl c98) | exact yes c88 (Or.inr (Or.inl e111)) | exact yes c88 (Or.inr (Or.inr (Or.inl e120))) | exact yes c88 (Or.inr (Or.inr (Or.inr (Or.inl c131)))) | exact yes c88 (Or.inr (Or.inr (Or.inr (Or.inr (hg c136))))) | exact n1 c98 e111 e120 c131 (hg0 c136)
                · refine VW.iload (pc' := 136) d_Model_canBeView_134 rfl rfl ?_
                  refine VW.if_eq (tgt := 143) (pc' := 139) d_Model_canBeView_136 rfl rfl (fun c136 => ?_) (fun c136 => ?_)
                  · try have e136 := bIe c136
                    refine VW.iconst (pc' := 144) d_Model_canBeView_143 rfl (by decide) ?_
                    refine VW.istore_n (pc' := 145) d_Model_canBeView_144 rfl rfl ?_
                    refine VW.iinc (pc' := 148) d_Model_canBeView_145 rfl rfl rfl (by omega) ?_
                    refine VW.goto (pc' := 4) d_Model_canBeView_148 rfl ?_
                    refine VW.pick [0, 1, 2, 3] ?_
                    first | exact keep c88 | exact yes c88 (Or.inl c98) | exact yes c88 (Or.inr (Or.inl e111)) | exact yes c88 (Or.inr (Or.inr (Or.inl e120))) | exact yes c88 (Or.inr (Or.inr (Or.inr (Or.inl c131)))) | exact yes c88 (Or.inr (Or.inr (Or.inr (Or.inr (hg c136))))) | exact n1 c98 e111 e120 c131 (hg0 c136)
                  · try have e136 := bIn c136
                    refine VW.iconst (pc' := 140) d_Model_canBeView_139 rfl (by decide) ?_
                    refine VW.goto (pc' := 144) d_Model_canBeView_140 rfl ?_
                    refine VW.istore_n (pc' := 145) d_Model_canBeView_144 rfl rfl ?_
                    refine VW.iinc (pc' := 148) d_Model_canBeView_145 rfl rfl rfl (by omega) ?_
                    refine VW.goto (pc' := 4) d_Model_canBeView_148 rfl ?_
                    refine VW.pick [0, 1, 2, 3] ?_
                    first | exact keep c88 | exact yes c88 (Or.inl c98) | exact yes c88 (Or.inr (Or.inl e111)) | exact yes c88 (Or.inr (Or.inr (Or.inl e120))) | exact yes c88 (Or.inr (Or.inr (Or.inr (Or.inl c131)))) | exact yes c88 (Or.inr (Or.inr (Or.inr (Or.inr (hg c136))))) | exact n1 c98 e111 e120 c131 (hg0 c136)
      clear keep yes n1
      refine VW.iload_n (pc' := 5) d_Model_canBeView_4 rfl rfl ?_
      refine VW.aload_n (pc' := 6) d_Model_canBeView_5 rfl rfl ?_
      refine VW.gP (ci := 11) (T := T11) (N := 94) (k := 62) (k' := 62) (pc' := 9) d_Model_canBeView_6 rfl lk_Model_159 in11 rfl rfl rfl rfl (hM.k rfl) (hM.p (r := some 262) 62 rfl rfl) ?_
      refine VW.iload_n (pc' := 10) d_Model_canBeView_9 rfl rfl ?_
      refine VW.ild (pc' := 11) d_Model_canBeView_10 rfl (hM.k rfl) (by omega) (by omega) (rfl) ?_
      refine VW.icmp_ge (tgt := 151) (pc' := 14) d_Model_canBeView_11 rfl rfl (fun c11 => ?_) (fun c11 => ?_)
      · exfalso; omega
      · refine VW.iload_n (pc' := 15) d_Model_canBeView_14 rfl rfl ?_
        refine VW.cS (pc' := 18) d_Model_canBeView_15 rfl ms_Model_base lk_Model_431 rfl rfl rfl (Nat.le_refl _) (Nat.le_refl _) (sp_Model_base (by omega)) rfl rfl ?_
        refine VW.iload_n (pc' := 19) d_Model_canBeView_18 rfl rfl ?_
        refine VW.iadd (pc' := 20) d_Model_canBeView_19 rfl (by omega) ?_
        refine VW.istore (pc' := 22) d_Model_canBeView_20 rfl rfl ?_
        refine VW.iload_n (pc' := 23) d_Model_canBeView_22 rfl rfl ?_
        refine VW.aload_n (pc' := 24) d_Model_canBeView_23 rfl rfl ?_
        refine VW.gP (ci := 11) (T := T11) (N := 94) (k := 62) (k' := 62) (pc' := 27) d_Model_canBeView_24 rfl lk_Model_159 in11 rfl rfl rfl rfl (hM.k rfl) (hM.p (r := some 262) 62 rfl rfl) ?_
        refine VW.iload_n (pc' := 28) d_Model_canBeView_27 rfl rfl ?_
        refine VW.ild (pc' := 29) d_Model_canBeView_28 rfl (hM.k rfl) (by omega) (by omega) (rfl) ?_
        refine VW.iconst (pc' := 30) d_Model_canBeView_29 rfl (by decide) ?_
        refine VW.isub (pc' := 31) d_Model_canBeView_30 rfl (by omega) ?_
        refine VW.icmp_ne (tgt := 38) (pc' := 34) d_Model_canBeView_31 rfl rfl (fun c31 => ?_) (fun c31 => ?_)
        · refine VW.iconst (pc' := 39) d_Model_canBeView_38 rfl (by decide) ?_
          refine VW.istore (pc' := 41) d_Model_canBeView_39 rfl rfl ?_
          refine VW.aload_n (pc' := 42) d_Model_canBeView_41 rfl rfl ?_
          refine VW.gP (ci := 11) (T := T11) (N := 94) (k := 56) (k' := 56) (pc' := 45) d_Model_canBeView_42 rfl lk_Model_144 in11 rfl rfl rfl rfl (hM.k rfl) (hM.p (r := some 256) 56 rfl rfl) ?_
          refine VW.iload (pc' := 47) d_Model_canBeView_45 rfl rfl ?_
          refine VW.ild (pc' := 48) d_Model_canBeView_47 rfl (hM.k rfl) (by omega) (by omega) (rfl) ?_
          refine VW.bipush (pc' := 50) d_Model_canBeView_48 rfl (by decide) ?_
          refine VW.icmp_ne (tgt := 84) (pc' := 53) d_Model_canBeView_50 rfl rfl (fun c50 => ?_) (fun c50 => ?_)
          · refine VW.iconst (pc' := 85) d_Model_canBeView_84 rfl (by decide) ?_
            refine VW.istore (pc' := 87) d_Model_canBeView_85 rfl rfl ?_
            refine VW.pick [0, 1, 2, 3, 4, 5, 6] ?_
            first | exact t87 1 (fun _ => ⟨c50, c31, c66, by omega⟩) (fun y => absurd y (by decide)) _ | exact t87 0 (fun y => absurd rfl y) (fun _ y => c50 y.1) _ | exact t87 0 (fun y => absurd rfl y) (fun _ y => c31 y.2.1) _ | exact t87 0 (fun y => absurd rfl y) (fun _ y => y.2.2.1 c66) _ | exact t87 0 (fun y => absurd rfl y) (fun _ y => by have := y.2.2.2; omega) _
          · refine VW.iload (pc' := 55) d_Model_canBeView_53 rfl rfl ?_
            refine VW.if_eq (tgt := 84) (pc' := 58) d_Model_canBeView_55 rfl rfl (fun _ => ?_) (fun c55 => absurd c55 (by decide))
            refine VW.iconst (pc' := 85) d_Model_canBeView_84 rfl (by decide) ?_
            refine VW.istore (pc' := 87) d_Model_canBeView_85 rfl rfl ?_
            refine VW.pick [0, 1, 2, 3, 4, 5, 6] ?_
            first | exact t87 1 (fun _ => ⟨c50, c31, c66, by omega⟩) (fun y => absurd y (by decide)) _ | exact t87 0 (fun y => absurd rfl y) (fun _ y => c50 y.1) _ | exact t87 0 (fun y => absurd rfl y) (fun _ y => c31 y.2.1) _ | exact t87 0 (fun y => absurd rfl y) (fun _ y => y.2.2.1 c66) _ | exact t87 0 (fun y => absurd rfl y) (fun _ y => by have := y.2.2.2; omega) _
        · refine VW.iconst (pc' := 35) d_Model_canBeView_34 rfl (by decide) ?_
          refine VW.goto (pc' := 39) d_Model_canBeView_35 rfl ?_
          refine VW.istore (pc' := 41) d_Model_canBeView_39 rfl rfl ?_
          refine VW.aload_n (pc' := 42) d_Model_canBeView_41 rfl rfl ?_
          refine VW.gP (ci := 11) (T := T11) (N := 94) (k := 56) (k' := 56) (pc' := 45) d_Model_canBeView_42 rfl lk_Model_144 in11 rfl rfl rfl rfl (hM.k rfl) (hM.p (r := some 256) 56 rfl rfl) ?_
          refine VW.iload (pc' := 47) d_Model_canBeView_45 rfl rfl ?_
          refine VW.ild (pc' := 48) d_Model_canBeView_47 rfl (hM.k rfl) (by omega) (by omega) (rfl) ?_
          refine VW.bipush (pc' := 50) d_Model_canBeView_48 rfl (by decide) ?_
          refine VW.icmp_ne (tgt := 84) (pc' := 53) d_Model_canBeView_50 rfl rfl (fun c50 => ?_) (fun c50 => ?_)
          · refine VW.iconst (pc' := 85) d_Model_canBeView_84 rfl (by decide) ?_
            refine VW.istore (pc' := 87) d_Model_canBeView_85 rfl rfl ?_
            refine VW.pick [0, 1, 2, 3, 4, 5, 6] ?_
            first | exact t87 1 (fun _ => ⟨c50, c31, c66, by omega⟩) (fun y => absurd y (by decide)) _ | exact t87 0 (fun y => absurd rfl y) (fun _ y => c50 y.1) _ | exact t87 0 (fun y => absurd rfl y) (fun _ y => c31 y.2.1) _ | exact t87 0 (fun y => absurd rfl y) (fun _ y => y.2.2.1 c66) _ | exact t87 0 (fun y => absurd rfl y) (fun _ y => by have := y.2.2.2; omega) _
          · refine VW.iload (pc' := 55) d_Model_canBeView_53 rfl rfl ?_
            refine VW.if_eq (tgt := 84) (pc' := 58) d_Model_canBeView_55 rfl rfl (fun c55 => absurd c55 (by decide)) (fun _ => ?_)
            refine VW.aload_n (pc' := 59) d_Model_canBeView_58 rfl rfl ?_
            refine VW.gP (ci := 11) (T := T11) (N := 94) (k := 57) (k' := 57) (pc' := 62) d_Model_canBeView_59 rfl lk_Model_147 in11 rfl rfl rfl rfl (hM.k rfl) (hM.p (r := some 257) 57 rfl rfl) ?_
            refine VW.iload (pc' := 64) d_Model_canBeView_62 rfl rfl ?_
            refine VW.ild (pc' := 65) d_Model_canBeView_64 rfl (hM.k rfl) (by omega) (by omega) (rfl) ?_
            refine VW.iconst (pc' := 66) d_Model_canBeView_65 rfl (by decide) ?_
            refine VW.icmp_eq (tgt := 84) (pc' := 69) d_Model_canBeView_66 rfl rfl (fun c66 => ?_) (fun c66 => ?_)
            · refine VW.iconst (pc' := 85) d_Model_canBeView_84 rfl (by decide) ?_
              refine VW.istore (pc' := 87) d_Model_canBeView_85 rfl rfl ?_
              refine VW.pick [0, 1, 2, 3, 4, 5, 6] ?_
              first | exact t87 1 (fun _ => ⟨c50, c31, c66, by omega⟩) (fun y => absurd y (by decide)) _ | exact t87 0 (fun y => absurd rfl y) (fun _ y => c50 y.1) _ | exact t87 0 (fun y => absurd rfl y) (fun _ y => c31 y.2.1) _ | exact t87 0 (fun y => absurd rfl y) (fun _ y => y.2.2.1 c66) _ | exact t87 0 (fun y => absurd rfl y) (fun _ y => by have := y.2.2.2; omega) _
            · refine VW.aload_n (pc' := 70) d_Model_canBeView_69 rfl rfl ?_
              refine VW.gP (ci := 11) (T := T11) (N := 94) (k := 58) (k' := 58) (pc' := 73) d_Model_canBeView_70 rfl lk_Model_150 in11 rfl rfl rfl rfl (hM.k rfl) (hM.p (r := some 258) 58 rfl rfl) ?_
              refine VW.iload (pc' := 75) d_Model_canBeView_73 rfl rfl ?_
              refine VW.ild (pc' := 76) d_Model_canBeView_75 rfl (hM.k rfl) (by omega) (by omega) (rfl) ?_
              refine VW.iconst (pc' := 77) d_Model_canBeView_76 rfl (by decide) ?_
              refine VW.icmp_gt (tgt := 84) (pc' := 80) d_Model_canBeView_77 rfl rfl (fun c77 => ?_) (fun c77 => ?_)
              · refine VW.iconst (pc' := 85) d_Model_canBeView_84 rfl (by decide) ?_
                refine VW.istore (pc' := 87) d_Model_canBeView_85 rfl rfl ?_
                refine VW.pick [0, 1, 2, 3, 4, 5, 6] ?_
                first | exact t87 1 (fun _ => ⟨c50, c31, c66, by omega⟩) (fun y => absurd y (by decide)) _ | exact t87 0 (fun y => absurd rfl y) (fun _ y => c50 y.1) _ | exact t87 0 (fun y => absurd rfl y) (fun _ y => c31 y.2.1) _ | exact t87 0 (fun y => absurd rfl y) (fun _ y => y.2.2.1 c66) _ | exact t87 0 (fun y => absurd rfl y) (fun _ y => by have := y.2.2.2; omega) _
              · refine VW.iconst (pc' := 81) d_Model_canBeView_80 rfl (by decide) ?_
                refine VW.goto (pc' := 85) d_Model_canBeView_81 rfl ?_
                refine VW.istore (pc' := 87) d_Model_canBeView_85 rfl rfl ?_
                refine VW.pick [0, 1, 2, 3, 4, 5, 6] ?_
                first | exact t87 1 (fun _ => ⟨c50, c31, c66, by omega⟩) (fun y => absurd y (by decide)) _ | exact t87 0 (fun y => absurd rfl y) (fun _ y => c50 y.1) _ | exact t87 0 (fun y => absurd rfl y) (fun _ y => c31 y.2.1) _ | exact t87 0 (fun y => absurd rfl y) (fun _ y => y.2.2.1 c66) _ | exact t87 0 (fun y => absurd rfl y) (fun _ y => by have := y.2.2.2; omega) _
  have l := loop (I 262 q).toNat 0 1 (by omega) (by omega) andI.z
  clear loop
  refine VW.iconst (pc' := 1) d_Model_canBeView_0 rfl (by decide) ?_
  refine VW.istore_n (pc' := 2) d_Model_canBeView_1 rfl rfl ?_
  refine VW.iconst (pc' := 3) d_Model_canBeView_2 rfl (by decide) ?_
  refine VW.istore_n (pc' := 4) d_Model_canBeView_3 rfl rfl ?_
  refine VW.nrm ?_
  exact l
end
