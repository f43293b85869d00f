section
variable {K : KT} {P : PT} {J I : IT} {Q : PQ}
def mPass (op : Int) : Prop := (op = 1 ∨ op = 2) ∨ op = 5 ∨ op = 6
/-- down from a node while it is passed -/
noncomputable def fjN (I : IT) (x : Int) : Nat → Int → Int
  | 0, k => k
  | f + 1, k => if bI (mPass (I 256 (x + k))) = 1 then fjN I x f (I 279 k) else k
theorem fjN_go {x k : Int} {f : Nat} (h : mPass (I 256 (x + k))) : fjN I x (f + 1) k = fjN I x f (I 279 k) := if_pos (bI1 h)
theorem fjN_end {x k : Int} {f : Nat} (h : ¬ mPass (I 256 (x + k))) : fjN I x (f + 1) k = k := if_neg (by rw [bI0 h]; decide)
noncomputable def mFirstJ (I : IT) (q : Int) (n : Nat) : Int := if bI (mInner I (12 * (q + 1) + fjN I (12 * (q + 1)) n ((n : Int) - 1))) = 1 then fjN I (12 * (q + 1)) n ((n : Int) - 1) else -1
theorem sp_Model_firstJoin {q : Int} {n : Nat} (hM : MW K P) (hq : 0 ≤ q ∧ q < 20) (hz : I 262 q = n) (hn : 1 ≤ n ∧ n ≤ 12) (hL : ∀ j : Int, 0 ≤ j → j < n → mPass (I 256 (12 * (q + 1) + j)) → 0 ≤ I 279 j ∧ I 279 j < j) : Sp m_Model_firstJoin false (rmv 2 42) (ex K P J I (.inl (some (vI (mFirstJ I q n))))) K P J I [vR (some 100), vI q] := by
  refine Sp.ofV (by decide) (Or.inr rfl) rfl ?_
  have loop : ∀ (f : Nat) (k : Int), 0 ≤ k → k < n → k < f → fjN I (12 * (q + 1)) f k = fjN I (12 * (q + 1)) n ((n : Int) - 1) → VW m_Model_firstJoin false (rmv 2 42) (ex K P J I (.inl (some (vI (mFirstJ I q n))))) K P J I 0 0 21 [(0, vR (some 100)), (1, vI q), (2, vI k), (3, vI (I 256 (12 * (q + 1) + k)))] [] := by
    intro f
    induction f with
    | zero => intro k h0 h1 h2; omega
    | succ f ih =>
      intro k h0 h1 h2 he
      have go : mPass (I 256 (12 * (q + 1) + k)) → VW m_Model_firstJoin false (rmv 2 42) (ex K P J I (.inl (some (vI (mFirstJ I q n))))) K P J I 0 0 21 [(0, vR (some 100)), (1, vI q), (2, vI (I 279 k)), (3, vI (I 256 (12 * (q + 1) + I 279 k)))] [] := fun z => by
        have l := hL k h0 h1 z
        exact ih (I 279 k) l.1 (by omega) (by omega) ((fjN_go z).symm.trans he)
      have fin : ¬ mPass (I 256 (12 * (q + 1) + k)) → mFirstJ I q n = (if bI (mInner I (12 * (q + 1) + k)) = 1 then k else -1) := fun z => by
        have e : k = fjN I (12 * (q + 1)) n ((n : Int) - 1) := (fjN_end z).symm.trans he
        unfold mFirstJ
        rw [← e]
      have l := hL k h0 h1
      clear ih he
      refine VW.iload_n (pc' := 22) d_Model_firstJoin_21 rfl rfl ?_
      refine VW.cS (pc' := 25) d_Model_firstJoin_22 rfl ms_Model_isFilter lk_Model_504 rfl rfl rfl (Nat.le_refl _) (Nat.le_refl _) (sp_Model_isFilter) rfl rfl ?_
      refine VW.if_ne (tgt := 39) (pc' := 28) d_Model_firstJoin_25 rfl rfl (fun c25 => ?_) (fun c25 => ?_)
      · try have e25 := bIn c25
        have ps : mPass (I 256 (12 * (q + 1) + k)) := by first | exact Or.inl e25 | exact Or.inr (Or.inl c30) | exact Or.inr (Or.inr c36)
        have l1 := l ps
        refine VW.aload_n (pc' := 40) d_Model_firstJoin_39 rfl rfl ?_
        refine VW.gP (ci := 11) (T := T11) (N := 94) (k := 79) (k' := 79) (pc' := 43) d_Model_firstJoin_40 rfl lk_Model_194 in11 rfl rfl rfl rfl (hM.k rfl) (hM.p (r := some 279) 79 rfl rfl) ?_
        refine VW.iload_n (pc' := 44) d_Model_firstJoin_43 rfl rfl ?_
        refine VW.ild (pc' := 45) d_Model_firstJoin_44 rfl (hM.k rfl) (by omega) (by omega) (rfl) ?_
        refine VW.istore_n (pc' := 46) d_Model_firstJoin_45 rfl rfl ?_
        refine VW.aload_n (pc' := 47) d_Model_firstJoin_46 rfl rfl ?_
        refine VW.gP (ci := 11) (T := T11) (N := 94) (k := 56) (k' := 56) (pc' := 50) d_Model_firstJoin_47 rfl lk_Model_144 in11 rfl rfl rfl rfl (hM.k rfl) (hM.p (r := some 256) 56 rfl rfl) ?_
        refine VW.iload_n (pc' := 51) d_Model_firstJoin_50 rfl rfl ?_
        refine VW.cS (pc' := 54) d_Model_firstJoin_51 rfl ms_Model_base lk_Model_431 rfl rfl rfl (Nat.le_refl _) (Nat.le_refl _) (sp_Model_base (by omega)) rfl rfl ?_
        refine VW.iload_n (pc' := 55) d_Model_firstJoin_54 rfl rfl ?_
        refine VW.iadd (pc' := 56) d_Model_firstJoin_55 rfl (by omega) ?_
        refine VW.ild (pc' := 57) d_Model_firstJoin_56 rfl (hM.k rfl) (by omega) (by omega) (rfl) ?_
        refine VW.istore_n (pc' := 58) d_Model_firstJoin_57 rfl rfl ?_
        refine VW.goto (pc' := 21) d_Model_firstJoin_58 rfl ?_
        refine VW.pick [0, 1, 2, 3] ?_
        exact go ps
      · try have e25 := bIe c25
        refine VW.iload_n (pc' := 29) d_Model_firstJoin_28 rfl rfl ?_
        refine VW.iconst (pc' := 30) d_Model_firstJoin_29 rfl (by decide) ?_
        refine VW.icmp_eq (tgt := 39) (pc' := 33) d_Model_firstJoin_30 rfl rfl (fun c30 => ?_) (fun c30 => ?_)
        · have ps : mPass (I 256 (12 * (q + 1) + k)) := by first | exact Or.inl e25 | exact Or.inr (Or.inl c30) | exact Or.inr (Or.inr c36)
          have l1 := l ps
          refine VW.aload_n (pc' := 40) d_Model_firstJoin_39 rfl rfl ?_
          refine VW.gP (ci := 11) (T := T11) (N := 94) (k := 79) (k' := 79) (pc' := 43) d_Model_firstJoin_40 rfl lk_Model_194 in11 rfl rfl rfl rfl (hM.k rfl) (hM.p (r := some 279) 79 rfl rfl) ?_
          refine VW.iload_n (pc' := 44) d_Model_firstJoin_43 rfl rfl ?_
          refine VW.ild (pc' := 45) d_Model_firstJoin_44 rfl (hM.k rfl) (by omega) (by omega) (rfl) ?_
          refine VW.istore_n (pc' := 46) d_Model_firstJoin_45 rfl rfl ?_
          refine VW.aload_n (pc' := 47) d_Model_firstJoin_46 rfl rfl ?_
          refine VW.gP (ci := 11) (T := T11) (N := 94) (k := 56) (k' := 56) (pc' := 50) d_Model_firstJoin_47 rfl lk_Model_144 in11 rfl rfl rfl rfl (hM.k rfl) (hM.p (r := some 256) 56 rfl rfl) ?_
          refine VW.iload_n (pc' := 51) d_Model_firstJoin_50 rfl rfl ?_
          refine VW.cS (pc' := 54) d_Model_firstJoin_51 rfl ms_Model_base lk_Model_431 rfl rfl rfl (Nat.le_refl _) (Nat.le_refl _) (sp_Model_base (by omega)) rfl rfl ?_
          refine VW.iload_n (pc' := 55) d_Model_firstJoin_54 rfl rfl ?_
          refine VW.iadd (pc' := 56) d_Model_firstJoin_55 rfl (by omega) ?_
          refine VW.ild (pc' := 57) d_Model_firstJoin_56 rfl (hM.k rfl) (by omega) (by omega) (rfl) ?_
          refine VW.istore_n (pc' := 58) d_Model_firstJoin_57 rfl rfl ?_
          refine VW.goto (pc' := 21) d_Model_firstJoin_58 rfl ?_
          refine VW.pick [0, 1, 2, 3] ?_
          exact go ps
        · refine VW.iload_n (pc' := 34) d_Model_firstJoin_33 rfl rfl ?_
          refine VW.bipush (pc' := 36) d_Model_firstJoin_34 rfl (by decide) ?_
          refine VW.icmp_ne (tgt := 61) (pc' := 39) d_Model_firstJoin_36 rfl rfl (fun c36 => ?_) (fun c36 => ?_)
          · have np : ¬ mPass (I 256 (12 * (q + 1) + k)) := fun z => by rcases z with z | z | z; exact e25 z; exact c30 z; exact c36 z
            have f1 := fin np
            refine VW.aload_n (pc' := 62) d_Model_firstJoin_61 rfl rfl ?_
            refine VW.iload_n (pc' := 63) d_Model_firstJoin_62 rfl rfl ?_
            refine VW.iload_n (pc' := 64) d_Model_firstJoin_63 rfl rfl ?_
            refine VW.cV (ci := 11) (T := T11) (N := 94) (pc' := 67) d_Model_firstJoin_64 rfl mv_Model_isInner lk_Model_507 rfl (hM.k rfl) rfl rfl rfl (Nat.le_refl _) (Nat.le_refl _) (sp_Model_isInner hM hq (by omega)) rfl rfl ?_
            refine VW.if_eq (tgt := 74) (pc' := 70) d_Model_firstJoin_67 rfl rfl (fun c67 => ?_) (fun c67 => ?_)
            · try have e67 := bIe c67
              refine VW.iconst (pc' := 75) d_Model_firstJoin_74 rfl (by decide) ?_
              exact VW.iret d_Model_firstJoin_75 rfl rfl (Nat.zero_le _) (Nat.zero_le _) (by first | (rw [f1, if_pos (bI1 e67)]; exact ex_rf) | (rw [f1, if_neg (by rw [bI0 e67]; decide)]; exact ex_rf))
            · try have e67 := bIn c67
              refine VW.iload_n (pc' := 71) d_Model_firstJoin_70 rfl rfl ?_
              refine VW.goto (pc' := 75) d_Model_firstJoin_71 rfl ?_
              exact VW.iret d_Model_firstJoin_75 rfl rfl (Nat.zero_le _) (Nat.zero_le _) (by first | (rw [f1, if_pos (bI1 e67)]; exact ex_rf) | (rw [f1, if_neg (by rw [bI0 e67]; decide)]; exact ex_rf))
          · have ps : mPass (I 256 (12 * (q + 1) + k)) := by first | exact Or.inl e25 | exact Or.inr (Or.inl c30) | exact Or.inr (Or.inr c36)
            have l1 := l ps
            refine VW.aload_n (pc' := 40) d_Model_firstJoin_39 rfl rfl ?_
            refine VW.gP (ci := 11) (T := T11) (N := 94) (k := 79) (k' := 79) (pc' := 43) d_Model_firstJoin_40 rfl lk_Model_194 in11 rfl rfl rfl rfl (hM.k rfl) (hM.p (r := some 279) 79 rfl rfl) ?_
            refine VW.iload_n (pc' := 44) d_Model_firstJoin_43 rfl rfl ?_
            refine VW.ild (pc' := 45) d_Model_firstJoin_44 rfl (hM.k rfl) (by omega) (by omega) (rfl) ?_
            refine VW.istore_n (pc' := 46) d_Model_firstJoin_45 rfl rfl ?_
            refine VW.aload_n (pc' := 47) d_Model_firstJoin_46 rfl rfl ?_
            refine VW.gP (ci := 11) (T := T11) (N := 94) (k := 56) (k' := 56) (pc' := 50) d_Model_firstJoin_47 rfl lk_Model_144 in11 rfl rfl rfl rfl (hM.k rfl) (hM.p (r := some 256) 56 rfl rfl) ?_
            refine VW.iload_n (pc' := 51) d_Model_firstJoin_50 rfl rfl ?_
            refine VW.cS (pc' := 54) d_Model_firstJoin_51 rfl ms_Model_base lk_Model_431 rfl rfl rfl (Nat.le_refl _) (Nat.le_refl _) (sp_Model_base (by omega)) rfl rfl ?_
            refine VW.iload_n (pc' := 55) d_Model_firstJoin_54 rfl rfl ?_
            refine VW.iadd (pc' := 56) d_Model_firstJoin_55 rfl (by omega) ?_
            refine VW.ild (pc' := 57) d_Model_firstJoin_56 rfl (hM.k rfl) (by omega) (by omega) (rfl) ?_
            refine VW.istore_n (pc' := 58) d_Model_firstJoin_57 rfl rfl ?_
            refine VW.goto (pc' := 21) d_Model_firstJoin_58 rfl ?_
            refine VW.pick [0, 1, 2, 3] ?_
            exact go ps
  have l := loop n ((n : Int) - 1) (by omega) (by omega) (by omega) rfl
  clear loop
  refine VW.aload_n (pc' := 1) d_Model_firstJoin_0 rfl rfl ?_
  refine VW.gP (ci := 11) (T := T11) (N := 94) (k := 62) (k' := 62) (pc' := 4) d_Model_firstJoin_1 rfl lk_Model_159 in11 rfl rfl rfl rfl (hM.k rfl) (hM.p (r := some 262) 62 rfl rfl) ?_
  refine VW.iload_n (pc' := 5) d_Model_firstJoin_4 rfl rfl ?_
  refine VW.ild (pc' := 6) d_Model_firstJoin_5 rfl (hM.k rfl) (by omega) (by omega) (by first | exact hz | rfl) ?_
  refine VW.iconst (pc' := 7) d_Model_firstJoin_6 rfl (by decide) ?_
  refine VW.isub (pc' := 8) d_Model_firstJoin_7 rfl (by omega) ?_
  refine VW.istore_n (pc' := 9) d_Model_firstJoin_8 rfl rfl ?_
  refine VW.aload_n (pc' := 10) d_Model_firstJoin_9 rfl rfl ?_
  refine VW.gP (ci := 11) (T := T11) (N := 94) (k := 56) (k' := 56) (pc' := 13) d_Model_firstJoin_10 rfl lk_Model_144 in11 rfl rfl rfl rfl (hM.k rfl) (hM.p (r := some 256) 56 rfl rfl) ?_
  refine VW.iload_n (pc' := 14) d_Model_firstJoin_13 rfl rfl ?_
  refine VW.cS (pc' := 17) d_Model_firstJoin_14 rfl ms_Model_base lk_Model_431 rfl rfl rfl (Nat.le_refl _) (Nat.le_refl _) (sp_Model_base (by omega)) rfl rfl ?_
  refine VW.iload_n (pc' := 18) d_Model_firstJoin_17 rfl rfl ?_
  refine VW.iadd (pc' := 19) d_Model_firstJoin_18 rfl (by omega) ?_
  refine VW.ild (pc' := 20) d_Model_firstJoin_19 rfl (hM.k rfl) (by omega) (by omega) (by first | exact hz | rfl) ?_
  refine VW.istore_n (pc' := 21) d_Model_firstJoin_20 rfl rfl ?_
  refine VW.nrm ?_
  exact l
end
