section
variable {K : KT} {P : PT} {J I : IT}
/-- a veil hides a row that is in an array from a role -/
def scHid (I : IT) (v p : Nat) (o a z j : Int) : Prop := I v (j * 5) = o ∧ I v (j * 5 + 1) = a ∧ cmp3 (I p (z + I v (j * 5 + 2))) (I v (j * 5 + 3)) (I v (j * 5 + 4)) ≠ 1
noncomputable def scSee (I : IT) (s v p : Nat) (o a z : Int) : Int := bI (∀ j : Int, 0 ≤ j → j < I s 6 → ¬ scHid I v p o a z j)
theorem sp_Schema_isSeen {s w c d t r v p np : Nat} {o a z : Int} (hG : ScW K P s w c d t r v) (hp : K p = some (100, np)) (hc : 0 ≤ I s 6 ∧ I s 6 ≤ 12) (hd : ∀ j : Int, 0 ≤ j → j < I s 6 → 0 ≤ I v (j * 5 + 2) ∧ I v (j * 5 + 2) < 4) (hz : 0 ≤ z ∧ z + 4 ≤ np ∧ np ≤ 524288) : Sp m_Schema_isSeen false (rmv 2 45) (ex K P J I (.inl (some (vI (scSee I s v p o a z))))) K P J I [vR (some s), vI o, vI a, vR (some p), vI z] := by
  refine Sp.ofV (by decide) (Or.inr rfl) rfl ?_
  have loop : ∀ (l : Nat) (j : Int), j + l = I s 6 → 0 ≤ j → (∀ q : Int, 0 ≤ q → q < j → ¬ scHid I v p o a z q) → VW m_Schema_isSeen false (rmv 2 45) (ex K P J I (.inl (some (vI (scSee I s v p o a z))))) K P J I 0 0 3 [(0, vR (some s)), (1, vI o), (2, vI a), (3, vR (some p)), (4, vI z), (5, vI j)] [] := by
    intro l
    induction l with
    | zero =>
      intro j hj h0 hn
      have e : scSee I s v p o a z = 1 := bI1 (fun q q0 q1 => hn q q0 (by omega))
      refine VW.iload (pc' := 5) d_Schema_isSeen_3 rfl rfl ?_
      refine VW.aload_n (pc' := 6) d_Schema_isSeen_5 rfl rfl ?_
      refine VW.gI (ci := 7) (T := T7) (N := 8) (k := 6) (k' := 6) (pc' := 9) d_Schema_isSeen_6 rfl lk_Schema_44 in7 rfl rfl rfl rfl (by first | exact hG.1 | exact hG.2.2.2.2.2.2.2 | exact hp) (by first | exact hG.2.1.1 | exact hG.2.2.1.1 | exact hG.2.2.2.1.1 | exact hG.2.2.2.2.1.1 | exact hG.2.2.2.2.2.1.1 | exact hG.2.2.2.2.2.2.1 | rfl) ?_
      refine VW.icmp_ge (tgt := 89) (pc' := 12) d_Schema_isSeen_9 rfl rfl (fun c9 => ?_) (fun c9 => ?_)
      · refine VW.iconst (pc' := 90) d_Schema_isSeen_89 rfl (by decide) ?_
        exact VW.iret d_Schema_isSeen_90 rfl rfl (Nat.zero_le _) (Nat.zero_le _) (by rw [e]; exact ex_rf)
      · exfalso; omega
    | succ l ih =>
      intro j hj h0 hn
      have dj := hd j h0 (by omega)
      have nx : ¬ scHid I v p o a z j → _ := fun y => ih (j + 1) (by omega) (by omega) (fun q q0 q1 => by
        by_cases e : q = j
        · rw [e]; exact y
        · exact hn q q0 (by omega))
      have e : scHid I v p o a z j → scSee I s v p o a z = 0 := fun y => bI0 (fun h => h j h0 (by omega) y)
      clear ih hn hd
      refine VW.iload (pc' := 5) d_Schema_isSeen_3 rfl rfl ?_
      refine VW.aload_n (pc' := 6) d_Schema_isSeen_5 rfl rfl ?_
      refine VW.gI (ci := 7) (T := T7) (N := 8) (k := 6) (k' := 6) (pc' := 9) d_Schema_isSeen_6 rfl lk_Schema_44 in7 rfl rfl rfl rfl (by first | exact hG.1 | exact hG.2.2.2.2.2.2.2 | exact hp) (by first | exact hG.2.1.1 | exact hG.2.2.1.1 | exact hG.2.2.2.1.1 | exact hG.2.2.2.2.1.1 | exact hG.2.2.2.2.2.1.1 | exact hG.2.2.2.2.2.2.1 | rfl) ?_
      refine VW.icmp_ge (tgt := 89) (pc' := 12) d_Schema_isSeen_9 rfl rfl (fun c9 => ?_) (fun c9 => ?_)
      · exfalso; omega
      · refine VW.iload (pc' := 14) d_Schema_isSeen_12 rfl rfl ?_
        refine VW.iconst (pc' := 15) d_Schema_isSeen_14 rfl (by decide) ?_
        refine VW.imul (pc' := 16) d_Schema_isSeen_15 rfl (by omega) ?_
        refine VW.istore (pc' := 18) d_Schema_isSeen_16 rfl rfl ?_
        refine VW.aload_n (pc' := 19) d_Schema_isSeen_18 rfl rfl ?_
        refine VW.gP (ci := 7) (T := T7) (N := 8) (k := 7) (k' := 7) (pc' := 22) d_Schema_isSeen_19 rfl lk_Schema_27 in7 rfl rfl rfl rfl (by first | exact hG.1 | exact hG.2.2.2.2.2.2.2 | exact hp) (by first | exact hG.2.1.1 | exact hG.2.2.1.1 | exact hG.2.2.2.1.1 | exact hG.2.2.2.2.1.1 | exact hG.2.2.2.2.2.1.1 | exact hG.2.2.2.2.2.2.1 | rfl) ?_
        refine VW.iload (pc' := 24) d_Schema_isSeen_22 rfl rfl ?_
        refine VW.ild (pc' := 25) d_Schema_isSeen_24 rfl (by first | exact hG.1 | exact hG.2.2.2.2.2.2.2 | exact hp) (by omega) (by omega) (by first | exact hG.2.1.1 | exact hG.2.2.1.1 | exact hG.2.2.2.1.1 | exact hG.2.2.2.2.1.1 | exact hG.2.2.2.2.2.1.1 | exact hG.2.2.2.2.2.2.1 | rfl) ?_
        refine VW.iload_n (pc' := 26) d_Schema_isSeen_25 rfl rfl ?_
        refine VW.icmp_ne (tgt := 83) (pc' := 29) d_Schema_isSeen_26 rfl rfl (fun c26 => ?_) (fun c26 => ?_)
        · refine VW.iinc (pc' := 86) d_Schema_isSeen_83 rfl rfl rfl (by omega) ?_
          refine VW.goto (pc' := 3) d_Schema_isSeen_86 rfl ?_
          refine VW.pick [0, 1, 2, 3, 4, 5] ?_
          first | exact nx (fun h => h.2.2 c78) | exact nx (fun h => c39 h.2.1) | exact nx (fun h => c26 h.1)
        · refine VW.aload_n (pc' := 30) d_Schema_isSeen_29 rfl rfl ?_
          refine VW.gP (ci := 7) (T := T7) (N := 8) (k := 7) (k' := 7) (pc' := 33) d_Schema_isSeen_30 rfl lk_Schema_27 in7 rfl rfl rfl rfl (by first | exact hG.1 | exact hG.2.2.2.2.2.2.2 | exact hp) (by first | exact hG.2.1.1 | exact hG.2.2.1.1 | exact hG.2.2.2.1.1 | exact hG.2.2.2.2.1.1 | exact hG.2.2.2.2.2.1.1 | exact hG.2.2.2.2.2.2.1 | rfl) ?_
          refine VW.iload (pc' := 35) d_Schema_isSeen_33 rfl rfl ?_
          refine VW.iconst (pc' := 36) d_Schema_isSeen_35 rfl (by decide) ?_
          refine VW.iadd (pc' := 37) d_Schema_isSeen_36 rfl (by omega) ?_
          refine VW.ild (pc' := 38) d_Schema_isSeen_37 rfl (by first | exact hG.1 | exact hG.2.2.2.2.2.2.2 | exact hp) (by omega) (by omega) (by first | exact hG.2.1.1 | exact hG.2.2.1.1 | exact hG.2.2.2.1.1 | exact hG.2.2.2.2.1.1 | exact hG.2.2.2.2.2.1.1 | exact hG.2.2.2.2.2.2.1 | rfl) ?_
          refine VW.iload_n (pc' := 39) d_Schema_isSeen_38 rfl rfl ?_
          refine VW.icmp_ne (tgt := 83) (pc' := 42) d_Schema_isSeen_39 rfl rfl (fun c39 => ?_) (fun c39 => ?_)
          · refine VW.iinc (pc' := 86) d_Schema_isSeen_83 rfl rfl rfl (by omega) ?_
            refine VW.goto (pc' := 3) d_Schema_isSeen_86 rfl ?_
            refine VW.pick [0, 1, 2, 3, 4, 5] ?_
            first | exact nx (fun h => h.2.2 c78) | exact nx (fun h => c39 h.2.1) | exact nx (fun h => c26 h.1)
          · refine VW.aload_n (pc' := 43) d_Schema_isSeen_42 rfl rfl ?_
            refine VW.iload (pc' := 45) d_Schema_isSeen_43 rfl rfl ?_
            refine VW.aload_n (pc' := 46) d_Schema_isSeen_45 rfl rfl ?_
            refine VW.gP (ci := 7) (T := T7) (N := 8) (k := 7) (k' := 7) (pc' := 49) d_Schema_isSeen_46 rfl lk_Schema_27 in7 rfl rfl rfl rfl (by first | exact hG.1 | exact hG.2.2.2.2.2.2.2 | exact hp) (by first | exact hG.2.1.1 | exact hG.2.2.1.1 | exact hG.2.2.2.1.1 | exact hG.2.2.2.2.1.1 | exact hG.2.2.2.2.2.1.1 | exact hG.2.2.2.2.2.2.1 | rfl) ?_
            refine VW.iload (pc' := 51) d_Schema_isSeen_49 rfl rfl ?_
            refine VW.iconst (pc' := 52) d_Schema_isSeen_51 rfl (by decide) ?_
            refine VW.iadd (pc' := 53) d_Schema_isSeen_52 rfl (by omega) ?_
            refine VW.ild (pc' := 54) d_Schema_isSeen_53 rfl (by first | exact hG.1 | exact hG.2.2.2.2.2.2.2 | exact hp) (by omega) (by omega) (by first | exact hG.2.1.1 | exact hG.2.2.1.1 | exact hG.2.2.2.1.1 | exact hG.2.2.2.2.1.1 | exact hG.2.2.2.2.2.1.1 | exact hG.2.2.2.2.2.2.1 | rfl) ?_
            refine VW.iadd (pc' := 55) d_Schema_isSeen_54 rfl (by omega) ?_
            refine VW.ild (pc' := 56) d_Schema_isSeen_55 rfl (by first | exact hG.1 | exact hG.2.2.2.2.2.2.2 | exact hp) (by omega) (by omega) (by first | exact hG.2.1.1 | exact hG.2.2.1.1 | exact hG.2.2.2.1.1 | exact hG.2.2.2.2.1.1 | exact hG.2.2.2.2.2.1.1 | exact hG.2.2.2.2.2.2.1 | rfl) ?_
            refine VW.aload_n (pc' := 57) d_Schema_isSeen_56 rfl rfl ?_
            refine VW.gP (ci := 7) (T := T7) (N := 8) (k := 7) (k' := 7) (pc' := 60) d_Schema_isSeen_57 rfl lk_Schema_27 in7 rfl rfl rfl rfl (by first | exact hG.1 | exact hG.2.2.2.2.2.2.2 | exact hp) (by first | exact hG.2.1.1 | exact hG.2.2.1.1 | exact hG.2.2.2.1.1 | exact hG.2.2.2.2.1.1 | exact hG.2.2.2.2.2.1.1 | exact hG.2.2.2.2.2.2.1 | rfl) ?_
            refine VW.iload (pc' := 62) d_Schema_isSeen_60 rfl rfl ?_
            refine VW.iconst (pc' := 63) d_Schema_isSeen_62 rfl (by decide) ?_
            refine VW.iadd (pc' := 64) d_Schema_isSeen_63 rfl (by omega) ?_
            refine VW.ild (pc' := 65) d_Schema_isSeen_64 rfl (by first | exact hG.1 | exact hG.2.2.2.2.2.2.2 | exact hp) (by omega) (by omega) (by first | exact hG.2.1.1 | exact hG.2.2.1.1 | exact hG.2.2.2.1.1 | exact hG.2.2.2.2.1.1 | exact hG.2.2.2.2.2.1.1 | exact hG.2.2.2.2.2.2.1 | rfl) ?_
            refine VW.aload_n (pc' := 66) d_Schema_isSeen_65 rfl rfl ?_
            refine VW.gP (ci := 7) (T := T7) (N := 8) (k := 7) (k' := 7) (pc' := 69) d_Schema_isSeen_66 rfl lk_Schema_27 in7 rfl rfl rfl rfl (by first | exact hG.1 | exact hG.2.2.2.2.2.2.2 | exact hp) (by first | exact hG.2.1.1 | exact hG.2.2.1.1 | exact hG.2.2.2.1.1 | exact hG.2.2.2.2.1.1 | exact hG.2.2.2.2.2.1.1 | exact hG.2.2.2.2.2.2.1 | rfl) ?_
            refine VW.iload (pc' := 71) d_Schema_isSeen_69 rfl rfl ?_
            refine VW.iconst (pc' := 72) d_Schema_isSeen_71 rfl (by decide) ?_
            refine VW.iadd (pc' := 73) d_Schema_isSeen_72 rfl (by omega) ?_
            refine VW.ild (pc' := 74) d_Schema_isSeen_73 rfl (by first | exact hG.1 | exact hG.2.2.2.2.2.2.2 | exact hp) (by omega) (by omega) (by first | exact hG.2.1.1 | exact hG.2.2.1.1 | exact hG.2.2.2.1.1 | exact hG.2.2.2.2.1.1 | exact hG.2.2.2.2.2.1.1 | exact hG.2.2.2.2.2.2.1 | rfl) ?_
            refine VW.cSN (host := "RowForge") (pc' := 77) d_Schema_isSeen_74 rfl ms_F_compared (by decide) rfl rfl rfl (Nat.le_refl _) (Nat.le_refl _) (sp_F_compared) rfl rfl ?_
            refine VW.iconst (pc' := 78) d_Schema_isSeen_77 rfl (by decide) ?_
            refine VW.icmp_eq (tgt := 83) (pc' := 81) d_Schema_isSeen_78 rfl rfl (fun c78 => ?_) (fun c78 => ?_)
            · refine VW.iinc (pc' := 86) d_Schema_isSeen_83 rfl rfl rfl (by omega) ?_
              refine VW.goto (pc' := 3) d_Schema_isSeen_86 rfl ?_
              refine VW.pick [0, 1, 2, 3, 4, 5] ?_
              first | exact nx (fun h => h.2.2 c78) | exact nx (fun h => c39 h.2.1) | exact nx (fun h => c26 h.1)
            · refine VW.iconst (pc' := 82) d_Schema_isSeen_81 rfl (by decide) ?_
              exact VW.iret d_Schema_isSeen_82 rfl rfl (Nat.zero_le _) (Nat.zero_le _) (by rw [e ⟨c26, c39, c78⟩]; exact ex_rf)
  have l := loop (I s 6).toNat 0 (by omega) (Int.le_refl _) (fun q q0 q1 => by omega)
  clear loop
  refine VW.iconst (pc' := 1) d_Schema_isSeen_0 rfl (by decide) ?_
  refine VW.istore (pc' := 3) d_Schema_isSeen_1 rfl rfl ?_
  refine VW.nrm ?_
  exact l
end
