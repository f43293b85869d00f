section
variable {K : KT} {P : PT} {J I : IT}
/-- a check of a table holds of a row in an array (UNKNOWN passes) -/
def scChk (I : IT) (d p : Nat) (a z j : Int) : Prop := cmp3 (I p (z + I d ((a * 4 + j) * 3))) (I d ((a * 4 + j) * 3 + 1)) (I d ((a * 4 + j) * 3 + 2)) ≠ 0
noncomputable def scPass (I : IT) (c d p : Nat) (a z : Int) : Int := bI (∀ j : Int, 0 ≤ j → j < I c a → scChk I d p a z j)
theorem sp_Schema_passesChecks {s w c d t r v p np : Nat} {a z : Int} (hG : ScW K P s w c d t r v) (hp : K p = some (100, np)) (ha : 0 ≤ a ∧ a < 6) (hc : 0 ≤ I c a ∧ I c a ≤ 4) (hd : ∀ j : Int, 0 ≤ j → j < I c a → 0 ≤ I d ((a * 4 + j) * 3) ∧ I d ((a * 4 + j) * 3) < 4) (hz : 0 ≤ z ∧ z + 4 ≤ np ∧ np ≤ 524288) : Sp m_Schema_passesChecks false (rmv 2 45) (ex K P J I (.inl (some (vI (scPass I c d p a z))))) K P J I [vR (some s), vI a, vR (some p), vI z] := by
  refine Sp.ofV (by decide) (Or.inr rfl) rfl ?_
  have loop : ∀ (l : Nat) (j : Int), j + l = I c a → 0 ≤ j → (∀ q : Int, 0 ≤ q → q < j → scChk I d p a z q) → VW m_Schema_passesChecks false (rmv 2 45) (ex K P J I (.inl (some (vI (scPass I c d p a z))))) K P J I 0 0 3 [(0, vR (some s)), (1, vI a), (2, vR (some p)), (3, vI z), (4, vI j)] [] := by
    intro l
    induction l with
    | zero =>
      intro j hj h0 hn
      have e : scPass I c d p a z = 1 := bI1 (fun q q0 q1 => hn q q0 (by omega))
      refine VW.iload (pc' := 5) d_Schema_passesChecks_3 rfl rfl ?_
      refine VW.aload_n (pc' := 6) d_Schema_passesChecks_5 rfl rfl ?_
      refine VW.gP (ci := 7) (T := T7) (N := 8) (k := 2) (k' := 2) (pc' := 9) d_Schema_passesChecks_6 rfl lk_Schema_15 in7 rfl rfl rfl rfl (by first | exact hG.1 | exact hG.2.1.2 | exact hG.2.2.1.2 | exact hG.2.2.2.1.2 | exact hp) (by first | exact hG.2.1.1 | exact hG.2.2.1.1 | exact hG.2.2.2.1.1 | exact hG.2.2.2.2.1.1 | exact hG.2.2.2.2.2.1.1 | exact hG.2.2.2.2.2.2.1 | rfl) ?_
      refine VW.iload_n (pc' := 10) d_Schema_passesChecks_9 rfl rfl ?_
      refine VW.ild (pc' := 11) d_Schema_passesChecks_10 rfl (by first | exact hG.1 | exact hG.2.1.2 | exact hG.2.2.1.2 | exact hG.2.2.2.1.2 | exact hp) (by omega) (by omega) (by first | exact hG.2.1.1 | exact hG.2.2.1.1 | exact hG.2.2.2.1.1 | exact hG.2.2.2.2.1.1 | exact hG.2.2.2.2.2.1.1 | exact hG.2.2.2.2.2.2.1 | rfl) ?_
      refine VW.icmp_ge (tgt := 67) (pc' := 14) d_Schema_passesChecks_11 rfl rfl (fun c11 => ?_) (fun c11 => ?_)
      · refine VW.iconst (pc' := 68) d_Schema_passesChecks_67 rfl (by decide) ?_
        exact VW.iret d_Schema_passesChecks_68 rfl rfl (Nat.zero_le _) (Nat.zero_le _) (by rw [e]; exact ex_rf)
      · exfalso; omega
    | succ l ih =>
      intro j hj h0 hn
      have dj := hd j h0 (by omega)
      have nx : scChk I d p a z j → _ := fun y => ih (j + 1) (by omega) (by omega) (fun q q0 q1 => by
        by_cases e : q = j
        · rw [e]; exact y
        · exact hn q q0 (by omega))
      have e : cmp3 (I p (z + I d ((a * 4 + j) * 3))) (I d ((a * 4 + j) * 3 + 1)) (I d ((a * 4 + j) * 3 + 2)) = 0 → scPass I c d p a z = 0 := fun y => bI0 (fun h => h j h0 (by omega) y)
      clear ih hn hd
      refine VW.iload (pc' := 5) d_Schema_passesChecks_3 rfl rfl ?_
      refine VW.aload_n (pc' := 6) d_Schema_passesChecks_5 rfl rfl ?_
      refine VW.gP (ci := 7) (T := T7) (N := 8) (k := 2) (k' := 2) (pc' := 9) d_Schema_passesChecks_6 rfl lk_Schema_15 in7 rfl rfl rfl rfl (by first | exact hG.1 | exact hG.2.1.2 | exact hG.2.2.1.2 | exact hG.2.2.2.1.2 | exact hp) (by first | exact hG.2.1.1 | exact hG.2.2.1.1 | exact hG.2.2.2.1.1 | exact hG.2.2.2.2.1.1 | exact hG.2.2.2.2.2.1.1 | exact hG.2.2.2.2.2.2.1 | rfl) ?_
      refine VW.iload_n (pc' := 10) d_Schema_passesChecks_9 rfl rfl ?_
      refine VW.ild (pc' := 11) d_Schema_passesChecks_10 rfl (by first | exact hG.1 | exact hG.2.1.2 | exact hG.2.2.1.2 | exact hG.2.2.2.1.2 | exact hp) (by omega) (by omega) (by first | exact hG.2.1.1 | exact hG.2.2.1.1 | exact hG.2.2.2.1.1 | exact hG.2.2.2.2.1.1 | exact hG.2.2.2.2.2.1.1 | exact hG.2.2.2.2.2.2.1 | rfl) ?_
      refine VW.icmp_ge (tgt := 67) (pc' := 14) d_Schema_passesChecks_11 rfl rfl (fun c11 => ?_) (fun c11 => ?_)
      · exfalso; omega
      · refine VW.iload_n (pc' := 15) d_Schema_passesChecks_14 rfl rfl ?_
        refine VW.iconst (pc' := 16) d_Schema_passesChecks_15 rfl (by decide) ?_
        refine VW.imul (pc' := 17) d_Schema_passesChecks_16 rfl (by omega) ?_
        refine VW.iload (pc' := 19) d_Schema_passesChecks_17 rfl rfl ?_
        refine VW.iadd (pc' := 20) d_Schema_passesChecks_19 rfl (by omega) ?_
        refine VW.iconst (pc' := 21) d_Schema_passesChecks_20 rfl (by decide) ?_
        refine VW.imul (pc' := 22) d_Schema_passesChecks_21 rfl (by omega) ?_
        refine VW.istore (pc' := 24) d_Schema_passesChecks_22 rfl rfl ?_
        refine VW.aload_n (pc' := 25) d_Schema_passesChecks_24 rfl rfl ?_
        refine VW.iload_n (pc' := 26) d_Schema_passesChecks_25 rfl rfl ?_
        refine VW.aload_n (pc' := 27) d_Schema_passesChecks_26 rfl rfl ?_
        refine VW.gP (ci := 7) (T := T7) (N := 8) (k := 3) (k' := 3) (pc' := 30) d_Schema_passesChecks_27 rfl lk_Schema_18 in7 rfl rfl rfl rfl (by first | exact hG.1 | exact hG.2.1.2 | exact hG.2.2.1.2 | exact hG.2.2.2.1.2 | exact hp) (by first | exact hG.2.1.1 | exact hG.2.2.1.1 | exact hG.2.2.2.1.1 | exact hG.2.2.2.2.1.1 | exact hG.2.2.2.2.2.1.1 | exact hG.2.2.2.2.2.2.1 | rfl) ?_
        refine VW.iload (pc' := 32) d_Schema_passesChecks_30 rfl rfl ?_
        refine VW.ild (pc' := 33) d_Schema_passesChecks_32 rfl (by first | exact hG.1 | exact hG.2.1.2 | exact hG.2.2.1.2 | exact hG.2.2.2.1.2 | exact hp) (by omega) (by omega) (by first | exact hG.2.1.1 | exact hG.2.2.1.1 | exact hG.2.2.2.1.1 | exact hG.2.2.2.2.1.1 | exact hG.2.2.2.2.2.1.1 | exact hG.2.2.2.2.2.2.1 | rfl) ?_
        refine VW.iadd (pc' := 34) d_Schema_passesChecks_33 rfl (by omega) ?_
        refine VW.ild (pc' := 35) d_Schema_passesChecks_34 rfl (by first | exact hG.1 | exact hG.2.1.2 | exact hG.2.2.1.2 | exact hG.2.2.2.1.2 | exact hp) (by omega) (by omega) (by first | exact hG.2.1.1 | exact hG.2.2.1.1 | exact hG.2.2.2.1.1 | exact hG.2.2.2.2.1.1 | exact hG.2.2.2.2.2.1.1 | exact hG.2.2.2.2.2.2.1 | rfl) ?_
        refine VW.aload_n (pc' := 36) d_Schema_passesChecks_35 rfl rfl ?_
        refine VW.gP (ci := 7) (T := T7) (N := 8) (k := 3) (k' := 3) (pc' := 39) d_Schema_passesChecks_36 rfl lk_Schema_18 in7 rfl rfl rfl rfl (by first | exact hG.1 | exact hG.2.1.2 | exact hG.2.2.1.2 | exact hG.2.2.2.1.2 | exact hp) (by first | exact hG.2.1.1 | exact hG.2.2.1.1 | exact hG.2.2.2.1.1 | exact hG.2.2.2.2.1.1 | exact hG.2.2.2.2.2.1.1 | exact hG.2.2.2.2.2.2.1 | rfl) ?_
        refine VW.iload (pc' := 41) d_Schema_passesChecks_39 rfl rfl ?_
        refine VW.iconst (pc' := 42) d_Schema_passesChecks_41 rfl (by decide) ?_
        refine VW.iadd (pc' := 43) d_Schema_passesChecks_42 rfl (by omega) ?_
        refine VW.ild (pc' := 44) d_Schema_passesChecks_43 rfl (by first | exact hG.1 | exact hG.2.1.2 | exact hG.2.2.1.2 | exact hG.2.2.2.1.2 | exact hp) (by omega) (by omega) (by first | exact hG.2.1.1 | exact hG.2.2.1.1 | exact hG.2.2.2.1.1 | exact hG.2.2.2.2.1.1 | exact hG.2.2.2.2.2.1.1 | exact hG.2.2.2.2.2.2.1 | rfl) ?_
        refine VW.aload_n (pc' := 45) d_Schema_passesChecks_44 rfl rfl ?_
        refine VW.gP (ci := 7) (T := T7) (N := 8) (k := 3) (k' := 3) (pc' := 48) d_Schema_passesChecks_45 rfl lk_Schema_18 in7 rfl rfl rfl rfl (by first | exact hG.1 | exact hG.2.1.2 | exact hG.2.2.1.2 | exact hG.2.2.2.1.2 | exact hp) (by first | exact hG.2.1.1 | exact hG.2.2.1.1 | exact hG.2.2.2.1.1 | exact hG.2.2.2.2.1.1 | exact hG.2.2.2.2.2.1.1 | exact hG.2.2.2.2.2.2.1 | rfl) ?_
        refine VW.iload (pc' := 50) d_Schema_passesChecks_48 rfl rfl ?_
        refine VW.iconst (pc' := 51) d_Schema_passesChecks_50 rfl (by decide) ?_
        refine VW.iadd (pc' := 52) d_Schema_passesChecks_51 rfl (by omega) ?_
        refine VW.ild (pc' := 53) d_Schema_passesChecks_52 rfl (by first | exact hG.1 | exact hG.2.1.2 | exact hG.2.2.1.2 | exact hG.2.2.2.1.2 | exact hp) (by omega) (by omega) (by first | exact hG.2.1.1 | exact hG.2.2.1.1 | exact hG.2.2.2.1.1 | exact hG.2.2.2.2.1.1 | exact hG.2.2.2.2.2.1.1 | exact hG.2.2.2.2.2.2.1 | rfl) ?_
        refine VW.cSN (host := "RowForge") (pc' := 56) d_Schema_passesChecks_53 rfl ms_F_compared (by decide) rfl rfl rfl (Nat.le_refl _) (Nat.le_refl _) (sp_F_compared) rfl rfl ?_
        refine VW.if_ne (tgt := 61) (pc' := 59) d_Schema_passesChecks_56 rfl rfl (fun c56 => ?_) (fun c56 => ?_)
        · try have e56 := bIn c56
          refine VW.iinc (pc' := 64) d_Schema_passesChecks_61 rfl rfl rfl (by omega) ?_
          refine VW.goto (pc' := 3) d_Schema_passesChecks_64 rfl ?_
          refine VW.pick [0, 1, 2, 3, 4] ?_
          exact nx c56
        · try have e56 := bIe c56
          refine VW.iconst (pc' := 60) d_Schema_passesChecks_59 rfl (by decide) ?_
          exact VW.iret d_Schema_passesChecks_60 rfl rfl (Nat.zero_le _) (Nat.zero_le _) (by rw [e c56]; exact ex_rf)
  have l := loop (I c a).toNat 0 (by omega) (Int.le_refl _) (fun q q0 q1 => by omega)
  clear loop
  refine VW.iconst (pc' := 1) d_Schema_passesChecks_0 rfl (by decide) ?_
  refine VW.istore (pc' := 3) d_Schema_passesChecks_1 rfl rfl ?_
  refine VW.nrm ?_
  exact l
end
