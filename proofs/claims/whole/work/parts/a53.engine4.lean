section
variable {K : KT} {P : PT} {J I : IT}
/-- something that was read is old -/
def stT (I : IT) (i : Nat) (t : Int) : Prop := whOf I i t ∧ I (tX i) 2 < I 1071 t
def stK (I : IT) (i l : Nat) (j : Int) : Prop := csG I (tX i) (I (tX i + 40 + l) j) (I (tX i + 60 + l) j)
def stG (I : IT) (i l : Nat) : Prop := (∃ t, 0 ≤ t ∧ t < 6 ∧ stT I i t) ∨ ∃ j, 0 ≤ j ∧ j < I (tX i) 14 ∧ stK I i l j
theorem sp_Engine_hasStaleRead {i l m : Nat} (hC : ClW K P) (hV : TxV K P i l m) (hN : TxN I i l m) : Sp m_Engine_hasStaleRead false (rmv 3 66) (ex K P J I (.inl (some (vI (bI (stG I i l)))))) K P J I [vR (some 1064), vR (some (tX i))] := by
  refine Sp.ofV (by decide) (Or.inr rfl) rfl ?_
  have hx := hV.1.1
  have ha := hV.1.2.2.2.1
  have hb := hV.1.2.2.2.2.1
  obtain ⟨h14, -, h40, h13, -⟩ := id hN
  have e2 : (((8 * 2 ^ l : Nat)) : Int) = 8 * 2 ^ l := by simp
  have keys : (∀ t, 0 ≤ t → t < 6 → ¬ stT I i t) → ∀ (w : Nat) (j : Int), j + w = I (tX i) 14 → 0 ≤ j → (∀ q, 0 ≤ q → q < j → ¬ stK I i l q) → VW m_Engine_hasStaleRead false (rmv 3 66) (ex K P J I (.inl (some (vI (bI (stG I i l)))))) K P J I 0 0 39 [(0, vR (some 1064)), (1, vR (some (tX i))), (2, vI j)] [] := by
    intro ht w
    induction w with
    | zero =>
      intro j hj h0 hq
      have fin : bI (stG I i l) = 0 := bI0 (fun h => h.elim (fun ⟨t, a, b, c⟩ => ht t a b c) (fun ⟨q, a, b, c⟩ => hq q a (by omega) c))
      refine VW.iload_n (pc' := 40) d_Engine_hasStaleRead_39 rfl rfl ?_
      refine VW.aload_n (pc' := 41) d_Engine_hasStaleRead_40 rfl rfl ?_
      refine VW.gI (ci := 8) (T := T8) (N := 19) (k := 14) (k' := 14) (pc' := 44) d_Engine_hasStaleRead_41 rfl lk_Engine_198 in8 rfl rfl rfl rfl (by first | exact hC.k 9 rfl | exact hC.k 10 rfl | exact hC.k 11 rfl | exact hC.k 12 rfl | exact hC.k 21 rfl | exact hC.k 22 rfl | exact hx | exact ha.2 | exact hb.2) (by first | exact hC.p 15 rfl | exact hC.p 16 rfl | exact hC.p 19 rfl | exact hC.p 20 rfl | exact hC.p 21 rfl | exact hC.p 30 rfl | exact ha.1 | exact hb.1 | rfl) ?_
      refine VW.icmp_ge (tgt := 75) (pc' := 47) d_Engine_hasStaleRead_44 rfl rfl (fun c44 => ?_) (fun c44 => ?_)
      case refine_2 => exact absurd c44 (by omega)
      refine VW.iconst (pc' := 76) d_Engine_hasStaleRead_75 rfl (by decide) ?_
      exact VW.iret d_Engine_hasStaleRead_76 rfl rfl (Nat.zero_le _) (Nat.zero_le _) (ex_v fin)
    | succ w ih =>
      intro j hj h0 hq
      have t6 := h40 j h0 (by omega)
      have yes : stK I i l j → bI (stG I i l) = 1 := fun h => bI1 (Or.inr ⟨j, h0, by omega, h⟩)
      have nx := fun (h : ¬ stK I i l j) => ih (j + 1) (by omega) (by omega) (fun q a b => by
        by_cases e : q = j
        · rw [e]; exact h
        · exact hq q a (by omega))
      unfold stK at yes nx
      clear ih ht hq
      refine VW.iload_n (pc' := 40) d_Engine_hasStaleRead_39 rfl rfl ?_
      refine VW.aload_n (pc' := 41) d_Engine_hasStaleRead_40 rfl rfl ?_
      refine VW.gI (ci := 8) (T := T8) (N := 19) (k := 14) (k' := 14) (pc' := 44) d_Engine_hasStaleRead_41 rfl lk_Engine_198 in8 rfl rfl rfl rfl (by first | exact hC.k 9 rfl | exact hC.k 10 rfl | exact hC.k 11 rfl | exact hC.k 12 rfl | exact hC.k 21 rfl | exact hC.k 22 rfl | exact hx | exact ha.2 | exact hb.2) (by first | exact hC.p 15 rfl | exact hC.p 16 rfl | exact hC.p 19 rfl | exact hC.p 20 rfl | exact hC.p 21 rfl | exact hC.p 30 rfl | exact ha.1 | exact hb.1 | rfl) ?_
      refine VW.icmp_ge (tgt := 75) (pc' := 47) d_Engine_hasStaleRead_44 rfl rfl (fun c44 => ?_) (fun c44 => ?_)
      case refine_1 => exact absurd c44 (by omega)
      refine VW.aload_n (pc' := 48) d_Engine_hasStaleRead_47 rfl rfl ?_
      refine VW.aload_n (pc' := 49) d_Engine_hasStaleRead_48 rfl rfl ?_
      refine VW.aload_n (pc' := 50) d_Engine_hasStaleRead_49 rfl rfl ?_
      refine VW.gP (ci := 8) (T := T8) (N := 19) (k := 15) (k' := 15) (pc' := 53) d_Engine_hasStaleRead_50 rfl lk_Engine_201 in8 rfl rfl rfl rfl (by first | exact hC.k 9 rfl | exact hC.k 10 rfl | exact hC.k 11 rfl | exact hC.k 12 rfl | exact hC.k 21 rfl | exact hC.k 22 rfl | exact hx | exact ha.2 | exact hb.2) (by first | exact hC.p 15 rfl | exact hC.p 16 rfl | exact hC.p 19 rfl | exact hC.p 20 rfl | exact hC.p 21 rfl | exact hC.p 30 rfl | exact ha.1 | exact hb.1 | rfl) ?_
      refine VW.iload_n (pc' := 54) d_Engine_hasStaleRead_53 rfl rfl ?_
      refine VW.ild (pc' := 55) d_Engine_hasStaleRead_54 rfl (by first | exact hC.k 9 rfl | exact hC.k 10 rfl | exact hC.k 11 rfl | exact hC.k 12 rfl | exact hC.k 21 rfl | exact hC.k 22 rfl | exact hx | exact ha.2 | exact hb.2) (by omega) (by omega) (by first | exact hC.p 15 rfl | exact hC.p 16 rfl | exact hC.p 19 rfl | exact hC.p 20 rfl | exact hC.p 21 rfl | exact hC.p 30 rfl | exact ha.1 | exact hb.1 | rfl) ?_
      refine VW.aload_n (pc' := 56) d_Engine_hasStaleRead_55 rfl rfl ?_
      refine VW.gP (ci := 8) (T := T8) (N := 19) (k := 16) (k' := 16) (pc' := 59) d_Engine_hasStaleRead_56 rfl lk_Engine_204 in8 rfl rfl rfl rfl (by first | exact hC.k 9 rfl | exact hC.k 10 rfl | exact hC.k 11 rfl | exact hC.k 12 rfl | exact hC.k 21 rfl | exact hC.k 22 rfl | exact hx | exact ha.2 | exact hb.2) (by first | exact hC.p 15 rfl | exact hC.p 16 rfl | exact hC.p 19 rfl | exact hC.p 20 rfl | exact hC.p 21 rfl | exact hC.p 30 rfl | exact ha.1 | exact hb.1 | rfl) ?_
      refine VW.iload_n (pc' := 60) d_Engine_hasStaleRead_59 rfl rfl ?_
      refine VW.ild (pc' := 61) d_Engine_hasStaleRead_60 rfl (by first | exact hC.k 9 rfl | exact hC.k 10 rfl | exact hC.k 11 rfl | exact hC.k 12 rfl | exact hC.k 21 rfl | exact hC.k 22 rfl | exact hx | exact ha.2 | exact hb.2) (by omega) (by omega) (by first | exact hC.p 15 rfl | exact hC.p 16 rfl | exact hC.p 19 rfl | exact hC.p 20 rfl | exact hC.p 21 rfl | exact hC.p 30 rfl | exact ha.1 | exact hb.1 | rfl) ?_
      refine VW.cV (ci := 0) (T := T0) (N := 8) (pc' := 64) d_Engine_hasStaleRead_61 rfl mv_Engine_isCommittedSince lk_Engine_147 rfl (by first | exact hC.k 9 rfl | exact hC.k 10 rfl | exact hC.k 11 rfl | exact hC.k 12 rfl | exact hC.k 21 rfl | exact hC.k 22 rfl | exact hx | exact ha.2 | exact hb.2) rfl rfl rfl (Nat.le_refl _) (Nat.le_refl _) (sp_Engine_isCommittedSince hC hx t6) rfl rfl ?_
      refine VW.if_eq (tgt := 69) (pc' := 67) d_Engine_hasStaleRead_64 rfl rfl (fun c64 => ?_) (fun c64 => ?_)
      · try have e64 := bIe c64
        refine VW.iinc (pc' := 72) d_Engine_hasStaleRead_69 rfl rfl rfl (by omega) ?_
        refine VW.goto (pc' := 39) d_Engine_hasStaleRead_72 rfl ?_
        refine VW.pick [0, 1, 2] ?_
        exact nx (bIe c64)
      · try have e64 := bIn c64
        refine VW.iconst (pc' := 68) d_Engine_hasStaleRead_67 rfl (by decide) ?_
        exact VW.iret d_Engine_hasStaleRead_68 rfl rfl (Nat.zero_le _) (Nat.zero_le _) (ex_v (yes (bIn c64)))
  have tabs : ∀ (w : Nat) (t : Int), t + w = 6 → 0 ≤ t → (∀ q, 0 ≤ q → q < t → ¬ stT I i q) → VW m_Engine_hasStaleRead false (rmv 3 66) (ex K P J I (.inl (some (vI (bI (stG I i l)))))) K P J I 0 0 2 [(0, vR (some 1064)), (1, vR (some (tX i))), (2, vI t)] [] := by
    intro w
    induction w with
    | zero =>
      intro t ht h0 hq
      have l9 := keys (fun q a b => hq q a (by omega)) (I (tX i) 14).toNat 0 (by omega) (Int.le_refl _) (fun q a b => by omega)
      clear keys
      refine VW.iload_n (pc' := 3) d_Engine_hasStaleRead_2 rfl rfl ?_
      refine VW.bipush (pc' := 5) d_Engine_hasStaleRead_3 rfl (by decide) ?_
      refine VW.icmp_ge (tgt := 37) (pc' := 8) d_Engine_hasStaleRead_5 rfl rfl (fun c5 => ?_) (fun c5 => ?_)
      case refine_2 => exact absurd c5 (by omega)
      refine VW.iconst (pc' := 38) d_Engine_hasStaleRead_37 rfl (by decide) ?_
      refine VW.istore_n (pc' := 39) d_Engine_hasStaleRead_38 rfl rfl ?_
      refine VW.pick [0, 1, 2] ?_
      exact l9
    | succ w ih =>
      intro t ht h0 hq
      have yes : whOf I i t → I (tX i) 2 < I 1071 t → bI (stG I i l) = 1 := fun h1 h2 => bI1 (Or.inl ⟨t, h0, by omega, h1, h2⟩)
      have nx := fun (h : ¬ stT I i t) => ih (t + 1) (by omega) (by omega) (fun q a b => by
        by_cases e : q = t
        · rw [e]; exact h
        · exact hq q a (by omega))
      have w01 : txWh I (tX i) t = 0 ∨ txWh I (tX i) t = 1 := by
        unfold txWh
        split
        · exact Or.inr rfl
        · exact Or.inl rfl
      unfold stT whOf at nx
      unfold whOf at yes
      clear ih keys hq
      refine VW.iload_n (pc' := 3) d_Engine_hasStaleRead_2 rfl rfl ?_
      refine VW.bipush (pc' := 5) d_Engine_hasStaleRead_3 rfl (by decide) ?_
      refine VW.icmp_ge (tgt := 37) (pc' := 8) d_Engine_hasStaleRead_5 rfl rfl (fun c5 => ?_) (fun c5 => ?_)
      case refine_1 => exact absurd c5 (by omega)
      refine VW.aload_n (pc' := 9) d_Engine_hasStaleRead_8 rfl rfl ?_
      refine VW.iload_n (pc' := 10) d_Engine_hasStaleRead_9 rfl rfl ?_
      refine VW.cV (ci := 8) (T := T8) (N := 19) (pc' := 13) d_Engine_hasStaleRead_10 rfl mv_Transaction_hasReadWhole lk_Engine_195 rfl (by first | exact hC.k 9 rfl | exact hC.k 10 rfl | exact hC.k 11 rfl | exact hC.k 12 rfl | exact hC.k 21 rfl | exact hC.k 22 rfl | exact hx | exact ha.2 | exact hb.2) rfl rfl rfl (Nat.le_refl _) (Nat.le_refl _) (sp_Transaction_hasReadWhole hV.1 ⟨h0, by omega⟩ h13) rfl rfl ?_
      refine VW.if_eq (tgt := 31) (pc' := 16) d_Engine_hasStaleRead_13 rfl rfl (fun c13 => ?_) (fun c13 => ?_)
      · try have e13 := bIe c13
        refine VW.iinc (pc' := 34) d_Engine_hasStaleRead_31 rfl rfl rfl (by omega) ?_
        refine VW.goto (pc' := 2) d_Engine_hasStaleRead_34 rfl ?_
        refine VW.pick [0, 1, 2] ?_
        first | exact nx (fun h => by have := h.1; omega) | exact nx (fun h => by have := h.2; omega)
      · try have e13 := bIn c13
        refine VW.aload_n (pc' := 17) d_Engine_hasStaleRead_16 rfl rfl ?_
        refine VW.gP (ci := 0) (T := T0) (N := 8) (k := 6) (k' := 6) (pc' := 20) d_Engine_hasStaleRead_17 rfl lk_Engine_39 in0 rfl rfl rfl rfl (by first | exact hC.k 9 rfl | exact hC.k 10 rfl | exact hC.k 11 rfl | exact hC.k 12 rfl | exact hC.k 21 rfl | exact hC.k 22 rfl | exact hx | exact ha.2 | exact hb.2) (by first | exact hC.p 15 rfl | exact hC.p 16 rfl | exact hC.p 19 rfl | exact hC.p 20 rfl | exact hC.p 21 rfl | exact hC.p 30 rfl | exact ha.1 | exact hb.1 | rfl) ?_
        refine VW.iload_n (pc' := 21) d_Engine_hasStaleRead_20 rfl rfl ?_
        refine VW.ild (pc' := 22) d_Engine_hasStaleRead_21 rfl (by first | exact hC.k 9 rfl | exact hC.k 10 rfl | exact hC.k 11 rfl | exact hC.k 12 rfl | exact hC.k 21 rfl | exact hC.k 22 rfl | exact hx | exact ha.2 | exact hb.2) (by omega) (by omega) (by first | exact hC.p 15 rfl | exact hC.p 16 rfl | exact hC.p 19 rfl | exact hC.p 20 rfl | exact hC.p 21 rfl | exact hC.p 30 rfl | exact ha.1 | exact hb.1 | rfl) ?_
        refine VW.aload_n (pc' := 23) d_Engine_hasStaleRead_22 rfl rfl ?_
        refine VW.gI (ci := 8) (T := T8) (N := 19) (k := 2) (k' := 2) (pc' := 26) d_Engine_hasStaleRead_23 rfl lk_Engine_151 in8 rfl rfl rfl rfl (by first | exact hC.k 9 rfl | exact hC.k 10 rfl | exact hC.k 11 rfl | exact hC.k 12 rfl | exact hC.k 21 rfl | exact hC.k 22 rfl | exact hx | exact ha.2 | exact hb.2) (by first | exact hC.p 15 rfl | exact hC.p 16 rfl | exact hC.p 19 rfl | exact hC.p 20 rfl | exact hC.p 21 rfl | exact hC.p 30 rfl | exact ha.1 | exact hb.1 | rfl) ?_
        refine VW.icmp_le (tgt := 31) (pc' := 29) d_Engine_hasStaleRead_26 rfl rfl (fun c26 => ?_) (fun c26 => ?_)
        · refine VW.iinc (pc' := 34) d_Engine_hasStaleRead_31 rfl rfl rfl (by omega) ?_
          refine VW.goto (pc' := 2) d_Engine_hasStaleRead_34 rfl ?_
          refine VW.pick [0, 1, 2] ?_
          first | exact nx (fun h => by have := h.1; omega) | exact nx (fun h => by have := h.2; omega)
        · refine VW.iconst (pc' := 30) d_Engine_hasStaleRead_29 rfl (by decide) ?_
          exact VW.iret d_Engine_hasStaleRead_30 rfl rfl (Nat.zero_le _) (Nat.zero_le _) (ex_v (yes (by omega) (by omega)))
  have l9 := tabs 6 0 (by omega) (Int.le_refl _) (fun q a b => by omega)
  clear tabs keys
  refine VW.iconst (pc' := 1) d_Engine_hasStaleRead_0 rfl (by decide) ?_
  refine VW.istore_n (pc' := 2) d_Engine_hasStaleRead_1 rfl rfl ?_
  refine VW.pick [0, 1, 2] ?_
  exact l9
/-- the rows of a table that there would be, of p places -/
noncomputable def ovN (I : IT) (i : Int) (a : Nat) (t : Int) (p : Nat) : Int := cntI (fun j => I 1161 ((t * 8 + j) * 4) ≠ -2147483648 ∧ ¬ wbG I i t (I 1161 ((t * 8 + j) * 4))) p + cntI (fun j => wbG I i t (I a ((t * 8 + j) * 4))) p
def ovG (I : IT) (i : Int) (a : Nat) : Prop := ∃ t, 0 ≤ t ∧ t < 6 ∧ 8 < ovN I i a t 8
theorem sp_Engine_overfills {i : Int} {r a : Nat} (hC : ClW K P) (hR : RwW K P r a) : Sp m_Engine_overfills false (rmv 3 66) (ex K P J I (.inl (some (vI (bI (ovG I i a)))))) K P J I [vR (some 1064), vI i, vR (some r)] := by
  refine Sp.ofV (by decide) (Or.inr rfl) rfl ?_
  have outer : ∀ (w : Nat) (t : Int), t + w = 6 → 0 ≤ t → (∀ q, 0 ≤ q → q < t → ¬ 8 < ovN I i a q 8) → VW m_Engine_overfills false (rmv 3 66) (ex K P J I (.inl (some (vI (bI (ovG I i a)))))) K P J I 0 0 2 [(0, vR (some 1064)), (1, vI i), (2, vR (some r)), (3, vI t)] [] := by
    intro w
    induction w with
    | zero =>
      intro t ht h0 hq
      have fin : bI (ovG I i a) = 0 := bI0 (fun ⟨q, x, y, z⟩ => hq q x (by omega) z)
      refine VW.iload_n (pc' := 3) d_Engine_overfills_2 rfl rfl ?_
      refine VW.bipush (pc' := 5) d_Engine_overfills_3 rfl (by decide) ?_
      refine VW.icmp_ge (tgt := 102) (pc' := 8) d_Engine_overfills_5 rfl rfl (fun c5 => ?_) (fun c5 => ?_)
      case refine_2 => exact absurd c5 (by omega)
      refine VW.iconst (pc' := 103) d_Engine_overfills_102 rfl (by decide) ?_
      exact VW.iret d_Engine_overfills_103 rfl rfl (Nat.zero_le _) (Nat.zero_le _) (ex_v fin)
    | succ w ih =>
      intro t ht h0 hq
      have yes : 8 < ovN I i a t 8 → bI (ovG I i a) = 1 := fun h => bI1 ⟨t, h0, by omega, h⟩
      have nx := fun (h : ¬ 8 < ovN I i a t 8) => ih (t + 1) (by omega) (by omega) (fun q x y => by
        by_cases e : q = t
        · rw [e]; exact h
        · exact hq q x (by omega))
      clear ih hq
      have inner : ∀ (w2 p : Nat), p + w2 = 8 → VW m_Engine_overfills false (rmv 3 66) (ex K P J I (.inl (some (vI (bI (ovG I i a)))))) K P J I 0 0 17 [(0, vR (some 1064)), (1, vI i), (2, vR (some r)), (3, vI t), (4, vI (ovN I i a t p)), (5, vI (t * 8 + (p : Int)))] [] := by
        intro w2
        induction w2 with
        | zero =>
          intro p hp
          have ep : p = 8 := by omega
          subst ep
          refine VW.iload (pc' := 19) d_Engine_overfills_17 rfl rfl ?_
          refine VW.iload_n (pc' := 20) d_Engine_overfills_19 rfl rfl ?_
          refine VW.iconst (pc' := 21) d_Engine_overfills_20 rfl (by decide) ?_
          refine VW.iadd (pc' := 22) d_Engine_overfills_21 rfl (by omega) ?_
          refine VW.bipush (pc' := 24) d_Engine_overfills_22 rfl (by decide) ?_
          refine VW.imul (pc' := 25) d_Engine_overfills_24 rfl (by omega) ?_
          refine VW.icmp_ge (tgt := 87) (pc' := 28) d_Engine_overfills_25 rfl rfl (fun c25 => ?_) (fun c25 => ?_)
          case refine_2 => exact absurd c25 (by omega)
          refine VW.iload (pc' := 89) d_Engine_overfills_87 rfl rfl ?_
          refine VW.bipush (pc' := 91) d_Engine_overfills_89 rfl (by decide) ?_
          refine VW.icmp_le (tgt := 96) (pc' := 94) d_Engine_overfills_91 rfl rfl (fun c91 => ?_) (fun c91 => ?_)
          · refine VW.iinc (pc' := 99) d_Engine_overfills_96 rfl rfl rfl (by omega) ?_
            refine VW.goto (pc' := 2) d_Engine_overfills_99 rfl ?_
            refine VW.pick [0, 1, 2, 3] ?_
            exact nx (by omega)
          · refine VW.iconst (pc' := 95) d_Engine_overfills_94 rfl (by decide) ?_
            exact VW.iret d_Engine_overfills_95 rfl rfl (Nat.zero_le _) (Nat.zero_le _) (ex_v (yes (by omega)))
        | succ w2 ih2 =>
          intro p hp
          have t6 : 0 ≤ t ∧ t < 6 := ⟨h0, by omega⟩
          have p48 : 0 ≤ t * 8 + (p : Int) ∧ t * 8 + (p : Int) < 48 := by omega
          have c1 := cntI_rg (fun j => I 1161 ((t * 8 + j) * 4) ≠ -2147483648 ∧ ¬ wbG I i t (I 1161 ((t * 8 + j) * 4))) p
          have c2 := cntI_rg (fun j => wbG I i t (I a ((t * 8 + j) * 4))) p
          have e1 : ovN I i a t (p + 1) = ovN I i a t p + bI (I 1161 ((t * 8 + (p : Int)) * 4) ≠ -2147483648 ∧ ¬ wbG I i t (I 1161 ((t * 8 + (p : Int)) * 4))) + bI (wbG I i t (I a ((t * 8 + (p : Int)) * 4))) := by
            show (cntI _ p + bI (I 1161 ((t * 8 + (p : Int)) * 4) ≠ -2147483648 ∧ ¬ wbG I i t (I 1161 ((t * 8 + (p : Int)) * 4)))) + (cntI _ p + bI (wbG I i t (I a ((t * 8 + (p : Int)) * 4)))) = _
            unfold ovN
            omega
          have ov : 0 ≤ ovN I i a t p ∧ ovN I i a t p ≤ 16 := by unfold ovN; omega
          have n9 := ih2 (p + 1) (by omega)
          rw [e1, show t * 8 + ((p + 1 : Nat) : Int) = t * 8 + (p : Int) + 1 by omega] at n9
          clear ih2 nx yes e1 c1 c2
          have s1 : ∀ b : Prop, (I 1161 ((t * 8 + (p : Int)) * 4) ≠ -2147483648 ∧ ¬ wbG I i t (I 1161 ((t * 8 + (p : Int)) * 4))) → bI (I 1161 ((t * 8 + (p : Int)) * 4) ≠ -2147483648 ∧ ¬ wbG I i t (I 1161 ((t * 8 + (p : Int)) * 4))) = 1 := fun _ h => bI1 h
          by_cases g1 : I 1161 ((t * 8 + (p : Int)) * 4) = -2147483648
          · rw [bI0 (p := I 1161 ((t * 8 + (p : Int)) * 4) ≠ -2147483648 ∧ ¬ wbG I i t (I 1161 ((t * 8 + (p : Int)) * 4))) (fun h => h.1 g1), Int.add_zero] at n9
            by_cases g2 : wbG I i t (I a ((t * 8 + (p : Int)) * 4))
            · rw [bI1 g2] at n9
              have b2 := bI1 g2
              refine VW.iload (pc' := 19) d_Engine_overfills_17 rfl rfl ?_
              refine VW.iload_n (pc' := 20) d_Engine_overfills_19 rfl rfl ?_
              refine VW.iconst (pc' := 21) d_Engine_overfills_20 rfl (by decide) ?_
              refine VW.iadd (pc' := 22) d_Engine_overfills_21 rfl (by omega) ?_
              refine VW.bipush (pc' := 24) d_Engine_overfills_22 rfl (by decide) ?_
              refine VW.imul (pc' := 25) d_Engine_overfills_24 rfl (by omega) ?_
              refine VW.icmp_ge (tgt := 87) (pc' := 28) d_Engine_overfills_25 rfl rfl (fun c25 => ?_) (fun c25 => ?_)
              case refine_1 => exact absurd c25 (by omega)
              refine VW.aload_n (pc' := 29) d_Engine_overfills_28 rfl rfl ?_
              refine VW.gP (ci := 0) (T := T0) (N := 8) (k := 1) (k' := 1) (pc' := 32) d_Engine_overfills_29 rfl lk_Engine_12 in0 rfl rfl rfl rfl (by first | exact hC.k 9 rfl | exact hC.k 10 rfl | exact hC.k 11 rfl | exact hC.k 12 rfl | exact hC.k 21 rfl | exact hC.k 22 rfl | exact hR.1) (by first | exact hC.p 15 rfl | exact hC.p 16 rfl | exact hC.p 19 rfl | exact hC.p 20 rfl | exact hC.p 21 rfl | exact hC.p 30 rfl | rfl) ?_
              refine VW.iload (pc' := 34) d_Engine_overfills_32 rfl rfl ?_
              refine VW.cV (ci := 6) (T := T6) (N := 1) (pc' := 37) d_Engine_overfills_34 rfl mv_Rows_keyAt lk_Engine_207 rfl (by first | exact hC.k 9 rfl | exact hC.k 10 rfl | exact hC.k 11 rfl | exact hC.k 12 rfl | exact hC.k 21 rfl | exact hC.k 22 rfl | exact hR.1) rfl rfl rfl (Nat.le_refl _) (Nat.le_refl _) (sp_Rows_keyAt hC.st p48) rfl rfl ?_
              refine VW.ldc (pc' := 39) (z := -2147483648) d_Engine_overfills_37 rfl lk_Engine_210 (by decide) (by decide) ?_
              refine VW.icmp_eq (tgt := 63) (pc' := 42) d_Engine_overfills_39 rfl rfl (fun c39 => ?_) (fun c39 => ?_)
              case refine_2 => exact absurd c39 (by omega)
              refine VW.aload_n (pc' := 64) d_Engine_overfills_63 rfl rfl ?_
              refine VW.iload_n (pc' := 65) d_Engine_overfills_64 rfl rfl ?_
              refine VW.iload_n (pc' := 66) d_Engine_overfills_65 rfl rfl ?_
              refine VW.aload_n (pc' := 67) d_Engine_overfills_66 rfl rfl ?_
              refine VW.iload (pc' := 69) d_Engine_overfills_67 rfl rfl ?_
              refine VW.cV (ci := 6) (T := T6) (N := 1) (pc' := 72) d_Engine_overfills_69 rfl mv_Rows_keyAt lk_Engine_207 rfl (by first | exact hC.k 9 rfl | exact hC.k 10 rfl | exact hC.k 11 rfl | exact hC.k 12 rfl | exact hC.k 21 rfl | exact hC.k 22 rfl | exact hR.1) rfl rfl rfl (Nat.le_refl _) (Nat.le_refl _) (sp_Rows_keyAt hR p48) rfl rfl ?_
              refine VW.cV (ci := 0) (T := T0) (N := 8) (pc' := 75) d_Engine_overfills_72 rfl mv_Engine_isWrittenBy lk_Engine_211 rfl (by first | exact hC.k 9 rfl | exact hC.k 10 rfl | exact hC.k 11 rfl | exact hC.k 12 rfl | exact hC.k 21 rfl | exact hC.k 22 rfl | exact hR.1) rfl rfl rfl (Nat.le_refl _) (Nat.le_refl _) (sp_Engine_isWrittenBy hC t6) rfl rfl ?_
              refine VW.if_eq (tgt := 81) (pc' := 78) d_Engine_overfills_75 rfl rfl (fun c75 => ?_) (fun c75 => ?_)
              case refine_1 => exact absurd c75 (by omega)
              refine VW.iinc (pc' := 81) d_Engine_overfills_78 rfl rfl rfl (by omega) ?_
              refine VW.iinc (pc' := 84) d_Engine_overfills_81 rfl rfl rfl (by omega) ?_
              refine VW.goto (pc' := 17) d_Engine_overfills_84 rfl ?_
              refine VW.pick [0, 1, 2, 3, 4, 5] ?_
              exact n9
            · rw [bI0 g2, Int.add_zero] at n9
              have b2 := bI0 g2
              refine VW.iload (pc' := 19) d_Engine_overfills_17 rfl rfl ?_
              refine VW.iload_n (pc' := 20) d_Engine_overfills_19 rfl rfl ?_
              refine VW.iconst (pc' := 21) d_Engine_overfills_20 rfl (by decide) ?_
              refine VW.iadd (pc' := 22) d_Engine_overfills_21 rfl (by omega) ?_
              refine VW.bipush (pc' := 24) d_Engine_overfills_22 rfl (by decide) ?_
              refine VW.imul (pc' := 25) d_Engine_overfills_24 rfl (by omega) ?_
              refine VW.icmp_ge (tgt := 87) (pc' := 28) d_Engine_overfills_25 rfl rfl (fun c25 => ?_) (fun c25 => ?_)
              case refine_1 => exact absurd c25 (by omega)
              refine VW.aload_n (pc' := 29) d_Engine_overfills_28 rfl rfl ?_
              refine VW.gP (ci := 0) (T := T0) (N := 8) (k := 1) (k' := 1) (pc' := 32) d_Engine_overfills_29 rfl lk_Engine_12 in0 rfl rfl rfl rfl (by first | exact hC.k 9 rfl | exact hC.k 10 rfl | exact hC.k 11 rfl | exact hC.k 12 rfl | exact hC.k 21 rfl | exact hC.k 22 rfl | exact hR.1) (by first | exact hC.p 15 rfl | exact hC.p 16 rfl | exact hC.p 19 rfl | exact hC.p 20 rfl | exact hC.p 21 rfl | exact hC.p 30 rfl | rfl) ?_
              refine VW.iload (pc' := 34) d_Engine_overfills_32 rfl rfl ?_
              refine VW.cV (ci := 6) (T := T6) (N := 1) (pc' := 37) d_Engine_overfills_34 rfl mv_Rows_keyAt lk_Engine_207 rfl (by first | exact hC.k 9 rfl | exact hC.k 10 rfl | exact hC.k 11 rfl | exact hC.k 12 rfl | exact hC.k 21 rfl | exact hC.k 22 rfl | exact hR.1) rfl rfl rfl (Nat.le_refl _) (Nat.le_refl _) (sp_Rows_keyAt hC.st p48) rfl rfl ?_
              refine VW.ldc (pc' := 39) (z := -2147483648) d_Engine_overfills_37 rfl lk_Engine_210 (by decide) (by decide) ?_
              refine VW.icmp_eq (tgt := 63) (pc' := 42) d_Engine_overfills_39 rfl rfl (fun c39 => ?_) (fun c39 => ?_)
              case refine_2 => exact absurd c39 (by omega)
              refine VW.aload_n (pc' := 64) d_Engine_overfills_63 rfl rfl ?_
              refine VW.iload_n (pc' := 65) d_Engine_overfills_64 rfl rfl ?_
              refine VW.iload_n (pc' := 66) d_Engine_overfills_65 rfl rfl ?_
              refine VW.aload_n (pc' := 67) d_Engine_overfills_66 rfl rfl ?_
              refine VW.iload (pc' := 69) d_Engine_overfills_67 rfl rfl ?_
              refine VW.cV (ci := 6) (T := T6) (N := 1) (pc' := 72) d_Engine_overfills_69 rfl mv_Rows_keyAt lk_Engine_207 rfl (by first | exact hC.k 9 rfl | exact hC.k 10 rfl | exact hC.k 11 rfl | exact hC.k 12 rfl | exact hC.k 21 rfl | exact hC.k 22 rfl | exact hR.1) rfl rfl rfl (Nat.le_refl _) (Nat.le_refl _) (sp_Rows_keyAt hR p48) rfl rfl ?_
              refine VW.cV (ci := 0) (T := T0) (N := 8) (pc' := 75) d_Engine_overfills_72 rfl mv_Engine_isWrittenBy lk_Engine_211 rfl (by first | exact hC.k 9 rfl | exact hC.k 10 rfl | exact hC.k 11 rfl | exact hC.k 12 rfl | exact hC.k 21 rfl | exact hC.k 22 rfl | exact hR.1) rfl rfl rfl (Nat.le_refl _) (Nat.le_refl _) (sp_Engine_isWrittenBy hC t6) rfl rfl ?_
              refine VW.if_eq (tgt := 81) (pc' := 78) d_Engine_overfills_75 rfl rfl (fun c75 => ?_) (fun c75 => ?_)
              case refine_2 => exact absurd c75 (by omega)
              refine VW.iinc (pc' := 84) d_Engine_overfills_81 rfl rfl rfl (by omega) ?_
              refine VW.goto (pc' := 17) d_Engine_overfills_84 rfl ?_
              refine VW.pick [0, 1, 2, 3, 4, 5] ?_
              exact n9
          · by_cases g3 : wbG I i t (I 1161 ((t * 8 + (p : Int)) * 4))
            · rw [bI0 (p := I 1161 ((t * 8 + (p : Int)) * 4) ≠ -2147483648 ∧ ¬ wbG I i t (I 1161 ((t * 8 + (p : Int)) * 4))) (fun h => h.2 g3), Int.add_zero] at n9
              have b3 := bI1 g3
              by_cases g2 : wbG I i t (I a ((t * 8 + (p : Int)) * 4))
              · rw [bI1 g2] at n9
                have b2 := bI1 g2
                refine VW.iload (pc' := 19) d_Engine_overfills_17 rfl rfl ?_
                refine VW.iload_n (pc' := 20) d_Engine_overfills_19 rfl rfl ?_
                refine VW.iconst (pc' := 21) d_Engine_overfills_20 rfl (by decide) ?_
                refine VW.iadd (pc' := 22) d_Engine_overfills_21 rfl (by omega) ?_
                refine VW.bipush (pc' := 24) d_Engine_overfills_22 rfl (by decide) ?_
                refine VW.imul (pc' := 25) d_Engine_overfills_24 rfl (by omega) ?_
                refine VW.icmp_ge (tgt := 87) (pc' := 28) d_Engine_overfills_25 rfl rfl (fun c25 => ?_) (fun c25 => ?_)
                case refine_1 => exact absurd c25 (by omega)
                refine VW.aload_n (pc' := 29) d_Engine_overfills_28 rfl rfl ?_
                refine VW.gP (ci := 0) (T := T0) (N := 8) (k := 1) (k' := 1) (pc' := 32) d_Engine_overfills_29 rfl lk_Engine_12 in0 rfl rfl rfl rfl (by first | exact hC.k 9 rfl | exact hC.k 10 rfl | exact hC.k 11 rfl | exact hC.k 12 rfl | exact hC.k 21 rfl | exact hC.k 22 rfl | exact hR.1) (by first | exact hC.p 15 rfl | exact hC.p 16 rfl | exact hC.p 19 rfl | exact hC.p 20 rfl | exact hC.p 21 rfl | exact hC.p 30 rfl | rfl) ?_
                refine VW.iload (pc' := 34) d_Engine_overfills_32 rfl rfl ?_
                refine VW.cV (ci := 6) (T := T6) (N := 1) (pc' := 37) d_Engine_overfills_34 rfl mv_Rows_keyAt lk_Engine_207 rfl (by first | exact hC.k 9 rfl | exact hC.k 10 rfl | exact hC.k 11 rfl | exact hC.k 12 rfl | exact hC.k 21 rfl | exact hC.k 22 rfl | exact hR.1) rfl rfl rfl (Nat.le_refl _) (Nat.le_refl _) (sp_Rows_keyAt hC.st p48) rfl rfl ?_
                refine VW.ldc (pc' := 39) (z := -2147483648) d_Engine_overfills_37 rfl lk_Engine_210 (by decide) (by decide) ?_
                refine VW.icmp_eq (tgt := 63) (pc' := 42) d_Engine_overfills_39 rfl rfl (fun c39 => ?_) (fun c39 => ?_)
                case refine_1 => exact absurd c39 (by omega)
                refine VW.aload_n (pc' := 43) d_Engine_overfills_42 rfl rfl ?_
                refine VW.iload_n (pc' := 44) d_Engine_overfills_43 rfl rfl ?_
                refine VW.iload_n (pc' := 45) d_Engine_overfills_44 rfl rfl ?_
                refine VW.aload_n (pc' := 46) d_Engine_overfills_45 rfl rfl ?_
                refine VW.gP (ci := 0) (T := T0) (N := 8) (k := 1) (k' := 1) (pc' := 49) d_Engine_overfills_46 rfl lk_Engine_12 in0 rfl rfl rfl rfl (by first | exact hC.k 9 rfl | exact hC.k 10 rfl | exact hC.k 11 rfl | exact hC.k 12 rfl | exact hC.k 21 rfl | exact hC.k 22 rfl | exact hR.1) (by first | exact hC.p 15 rfl | exact hC.p 16 rfl | exact hC.p 19 rfl | exact hC.p 20 rfl | exact hC.p 21 rfl | exact hC.p 30 rfl | rfl) ?_
                refine VW.iload (pc' := 51) d_Engine_overfills_49 rfl rfl ?_
                refine VW.cV (ci := 6) (T := T6) (N := 1) (pc' := 54) d_Engine_overfills_51 rfl mv_Rows_keyAt lk_Engine_207 rfl (by first | exact hC.k 9 rfl | exact hC.k 10 rfl | exact hC.k 11 rfl | exact hC.k 12 rfl | exact hC.k 21 rfl | exact hC.k 22 rfl | exact hR.1) rfl rfl rfl (Nat.le_refl _) (Nat.le_refl _) (sp_Rows_keyAt hC.st p48) rfl rfl ?_
                refine VW.cV (ci := 0) (T := T0) (N := 8) (pc' := 57) d_Engine_overfills_54 rfl mv_Engine_isWrittenBy lk_Engine_211 rfl (by first | exact hC.k 9 rfl | exact hC.k 10 rfl | exact hC.k 11 rfl | exact hC.k 12 rfl | exact hC.k 21 rfl | exact hC.k 22 rfl | exact hR.1) rfl rfl rfl (Nat.le_refl _) (Nat.le_refl _) (sp_Engine_isWrittenBy hC t6) rfl rfl ?_
                refine VW.if_ne (tgt := 63) (pc' := 60) d_Engine_overfills_57 rfl rfl (fun c57 => ?_) (fun c57 => ?_)
                case refine_2 => exact absurd c57 (by omega)
                refine VW.aload_n (pc' := 64) d_Engine_overfills_63 rfl rfl ?_
                refine VW.iload_n (pc' := 65) d_Engine_overfills_64 rfl rfl ?_
                refine VW.iload_n (pc' := 66) d_Engine_overfills_65 rfl rfl ?_
                refine VW.aload_n (pc' := 67) d_Engine_overfills_66 rfl rfl ?_
                refine VW.iload (pc' := 69) d_Engine_overfills_67 rfl rfl ?_
                refine VW.cV (ci := 6) (T := T6) (N := 1) (pc' := 72) d_Engine_overfills_69 rfl mv_Rows_keyAt lk_Engine_207 rfl (by first | exact hC.k 9 rfl | exact hC.k 10 rfl | exact hC.k 11 rfl | exact hC.k 12 rfl | exact hC.k 21 rfl | exact hC.k 22 rfl | exact hR.1) rfl rfl rfl (Nat.le_refl _) (Nat.le_refl _) (sp_Rows_keyAt hR p48) rfl rfl ?_
                refine VW.cV (ci := 0) (T := T0) (N := 8) (pc' := 75) d_Engine_overfills_72 rfl mv_Engine_isWrittenBy lk_Engine_211 rfl (by first | exact hC.k 9 rfl | exact hC.k 10 rfl | exact hC.k 11 rfl | exact hC.k 12 rfl | exact hC.k 21 rfl | exact hC.k 22 rfl | exact hR.1) rfl rfl rfl (Nat.le_refl _) (Nat.le_refl _) (sp_Engine_isWrittenBy hC t6) rfl rfl ?_
                refine VW.if_eq (tgt := 81) (pc' := 78) d_Engine_overfills_75 rfl rfl (fun c75 => ?_) (fun c75 => ?_)
                case refine_1 => exact absurd c75 (by omega)
                refine VW.iinc (pc' := 81) d_Engine_overfills_78 rfl rfl rfl (by omega) ?_
                refine VW.iinc (pc' := 84) d_Engine_overfills_81 rfl rfl rfl (by omega) ?_
                refine VW.goto (pc' := 17) d_Engine_overfills_84 rfl ?_
                refine VW.pick [0, 1, 2, 3, 4, 5] ?_
                exact n9
              · rw [bI0 g2, Int.add_zero] at n9
                have b2 := bI0 g2
                refine VW.iload (pc' := 19) d_Engine_overfills_17 rfl rfl ?_
                refine VW.iload_n (pc' := 20) d_Engine_overfills_19 rfl rfl ?_
                refine VW.iconst (pc' := 21) d_Engine_overfills_20 rfl (by decide) ?_
                refine VW.iadd (pc' := 22) d_Engine_overfills_21 rfl (by omega) ?_
                refine VW.bipush (pc' := 24) d_Engine_overfills_22 rfl (by decide) ?_
                refine VW.imul (pc' := 25) d_Engine_overfills_24 rfl (by omega) ?_
                refine VW.icmp_ge (tgt := 87) (pc' := 28) d_Engine_overfills_25 rfl rfl (fun c25 => ?_) (fun c25 => ?_)
                case refine_1 => exact absurd c25 (by omega)
                refine VW.aload_n (pc' := 29) d_Engine_overfills_28 rfl rfl ?_
                refine VW.gP (ci := 0) (T := T0) (N := 8) (k := 1) (k' := 1) (pc' := 32) d_Engine_overfills_29 rfl lk_Engine_12 in0 rfl rfl rfl rfl (by first | exact hC.k 9 rfl | exact hC.k 10 rfl | exact hC.k 11 rfl | exact hC.k 12 rfl | exact hC.k 21 rfl | exact hC.k 22 rfl | exact hR.1) (by first | exact hC.p 15 rfl | exact hC.p 16 rfl | exact hC.p 19 rfl | exact hC.p 20 rfl | exact hC.p 21 rfl | exact hC.p 30 rfl | rfl) ?_
                refine VW.iload (pc' := 34) d_Engine_overfills_32 rfl rfl ?_
                refine VW.cV (ci := 6) (T := T6) (N := 1) (pc' := 37) d_Engine_overfills_34 rfl mv_Rows_keyAt lk_Engine_207 rfl (by first | exact hC.k 9 rfl | exact hC.k 10 rfl | exact hC.k 11 rfl | exact hC.k 12 rfl | exact hC.k 21 rfl | exact hC.k 22 rfl | exact hR.1) rfl rfl rfl (Nat.le_refl _) (Nat.le_refl _) (sp_Rows_keyAt hC.st p48) rfl rfl ?_
                refine VW.ldc (pc' := 39) (z := -2147483648) d_Engine_overfills_37 rfl lk_Engine_210 (by decide) (by decide) ?_
                refine VW.icmp_eq (tgt := 63) (pc' := 42) d_Engine_overfills_39 rfl rfl (fun c39 => ?_) (fun c39 => ?_)
                case refine_1 => exact absurd c39 (by omega)
                refine VW.aload_n (pc' := 43) d_Engine_overfills_42 rfl rfl ?_
                refine VW.iload_n (pc' := 44) d_Engine_overfills_43 rfl rfl ?_
                refine VW.iload_n (pc' := 45) d_Engine_overfills_44 rfl rfl ?_
                refine VW.aload_n (pc' := 46) d_Engine_overfills_45 rfl rfl ?_
                refine VW.gP (ci := 0) (T := T0) (N := 8) (k := 1) (k' := 1) (pc' := 49) d_Engine_overfills_46 rfl lk_Engine_12 in0 rfl rfl rfl rfl (by first | exact hC.k 9 rfl | exact hC.k 10 rfl | exact hC.k 11 rfl | exact hC.k 12 rfl | exact hC.k 21 rfl | exact hC.k 22 rfl | exact hR.1) (by first | exact hC.p 15 rfl | exact hC.p 16 rfl | exact hC.p 19 rfl | exact hC.p 20 rfl | exact hC.p 21 rfl | exact hC.p 30 rfl | rfl) ?_
                refine VW.iload (pc' := 51) d_Engine_overfills_49 rfl rfl ?_
                refine VW.cV (ci := 6) (T := T6) (N := 1) (pc' := 54) d_Engine_overfills_51 rfl mv_Rows_keyAt lk_Engine_207 rfl (by first | exact hC.k 9 rfl | exact hC.k 10 rfl | exact hC.k 11 rfl | exact hC.k 12 rfl | exact hC.k 21 rfl | exact hC.k 22 rfl | exact hR.1) rfl rfl rfl (Nat.le_refl _) (Nat.le_refl _) (sp_Rows_keyAt hC.st p48) rfl rfl ?_
                refine VW.cV (ci := 0) (T := T0) (N := 8) (pc' := 57) d_Engine_overfills_54 rfl mv_Engine_isWrittenBy lk_Engine_211 rfl (by first | exact hC.k 9 rfl | exact hC.k 10 rfl | exact hC.k 11 rfl | exact hC.k 12 rfl | exact hC.k 21 rfl | exact hC.k 22 rfl | exact hR.1) rfl rfl rfl (Nat.le_refl _) (Nat.le_refl _) (sp_Engine_isWrittenBy hC t6) rfl rfl ?_
                refine VW.if_ne (tgt := 63) (pc' := 60) d_Engine_overfills_57 rfl rfl (fun c57 => ?_) (fun c57 => ?_)
                case refine_2 => exact absurd c57 (by omega)
                refine VW.aload_n (pc' := 64) d_Engine_overfills_63 rfl rfl ?_
                refine VW.iload_n (pc' := 65) d_Engine_overfills_64 rfl rfl ?_
                refine VW.iload_n (pc' := 66) d_Engine_overfills_65 rfl rfl ?_
                refine VW.aload_n (pc' := 67) d_Engine_overfills_66 rfl rfl ?_
                refine VW.iload (pc' := 69) d_Engine_overfills_67 rfl rfl ?_
                refine VW.cV (ci := 6) (T := T6) (N := 1) (pc' := 72) d_Engine_overfills_69 rfl mv_Rows_keyAt lk_Engine_207 rfl (by first | exact hC.k 9 rfl | exact hC.k 10 rfl | exact hC.k 11 rfl | exact hC.k 12 rfl | exact hC.k 21 rfl | exact hC.k 22 rfl | exact hR.1) rfl rfl rfl (Nat.le_refl _) (Nat.le_refl _) (sp_Rows_keyAt hR p48) rfl rfl ?_
                refine VW.cV (ci := 0) (T := T0) (N := 8) (pc' := 75) d_Engine_overfills_72 rfl mv_Engine_isWrittenBy lk_Engine_211 rfl (by first | exact hC.k 9 rfl | exact hC.k 10 rfl | exact hC.k 11 rfl | exact hC.k 12 rfl | exact hC.k 21 rfl | exact hC.k 22 rfl | exact hR.1) rfl rfl rfl (Nat.le_refl _) (Nat.le_refl _) (sp_Engine_isWrittenBy hC t6) rfl rfl ?_
                refine VW.if_eq (tgt := 81) (pc' := 78) d_Engine_overfills_75 rfl rfl (fun c75 => ?_) (fun c75 => ?_)
                case refine_2 => exact absurd c75 (by omega)
                refine VW.iinc (pc' := 84) d_Engine_overfills_81 rfl rfl rfl (by omega) ?_
                refine VW.goto (pc' := 17) d_Engine_overfills_84 rfl ?_
                refine VW.pick [0, 1, 2, 3, 4, 5] ?_
                exact n9
            · rw [bI1 (p := I 1161 ((t * 8 + (p : Int)) * 4) ≠ -2147483648 ∧ ¬ wbG I i t (I 1161 ((t * 8 + (p : Int)) * 4))) ⟨g1, g3⟩] at n9
              have b3 := bI0 g3
              by_cases g2 : wbG I i t (I a ((t * 8 + (p : Int)) * 4))
              · rw [bI1 g2] at n9
                have b2 := bI1 g2
                refine VW.iload (pc' := 19) d_Engine_overfills_17 rfl rfl ?_
                refine VW.iload_n (pc' := 20) d_Engine_overfills_19 rfl rfl ?_
                refine VW.iconst (pc' := 21) d_Engine_overfills_20 rfl (by decide) ?_
                refine VW.iadd (pc' := 22) d_Engine_overfills_21 rfl (by omega) ?_
                refine VW.bipush (pc' := 24) d_Engine_overfills_22 rfl (by decide) ?_
                refine VW.imul (pc' := 25) d_Engine_overfills_24 rfl (by omega) ?_
                refine VW.icmp_ge (tgt := 87) (pc' := 28) d_Engine_overfills_25 rfl rfl (fun c25 => ?_) (fun c25 => ?_)
                case refine_1 => exact absurd c25 (by omega)
                refine VW.aload_n (pc' := 29) d_Engine_overfills_28 rfl rfl ?_
                refine VW.gP (ci := 0) (T := T0) (N := 8) (k := 1) (k' := 1) (pc' := 32) d_Engine_overfills_29 rfl lk_Engine_12 in0 rfl rfl rfl rfl (by first | exact hC.k 9 rfl | exact hC.k 10 rfl | exact hC.k 11 rfl | exact hC.k 12 rfl | exact hC.k 21 rfl | exact hC.k 22 rfl | exact hR.1) (by first | exact hC.p 15 rfl | exact hC.p 16 rfl | exact hC.p 19 rfl | exact hC.p 20 rfl | exact hC.p 21 rfl | exact hC.p 30 rfl | rfl) ?_
                refine VW.iload (pc' := 34) d_Engine_overfills_32 rfl rfl ?_
                refine VW.cV (ci := 6) (T := T6) (N := 1) (pc' := 37) d_Engine_overfills_34 rfl mv_Rows_keyAt lk_Engine_207 rfl (by first | exact hC.k 9 rfl | exact hC.k 10 rfl | exact hC.k 11 rfl | exact hC.k 12 rfl | exact hC.k 21 rfl | exact hC.k 22 rfl | exact hR.1) rfl rfl rfl (Nat.le_refl _) (Nat.le_refl _) (sp_Rows_keyAt hC.st p48) rfl rfl ?_
                refine VW.ldc (pc' := 39) (z := -2147483648) d_Engine_overfills_37 rfl lk_Engine_210 (by decide) (by decide) ?_
                refine VW.icmp_eq (tgt := 63) (pc' := 42) d_Engine_overfills_39 rfl rfl (fun c39 => ?_) (fun c39 => ?_)
                case refine_1 => exact absurd c39 (by omega)
                refine VW.aload_n (pc' := 43) d_Engine_overfills_42 rfl rfl ?_
                refine VW.iload_n (pc' := 44) d_Engine_overfills_43 rfl rfl ?_
                refine VW.iload_n (pc' := 45) d_Engine_overfills_44 rfl rfl ?_
                refine VW.aload_n (pc' := 46) d_Engine_overfills_45 rfl rfl ?_
                refine VW.gP (ci := 0) (T := T0) (N := 8) (k := 1) (k' := 1) (pc' := 49) d_Engine_overfills_46 rfl lk_Engine_12 in0 rfl rfl rfl rfl (by first | exact hC.k 9 rfl | exact hC.k 10 rfl | exact hC.k 11 rfl | exact hC.k 12 rfl | exact hC.k 21 rfl | exact hC.k 22 rfl | exact hR.1) (by first | exact hC.p 15 rfl | exact hC.p 16 rfl | exact hC.p 19 rfl | exact hC.p 20 rfl | exact hC.p 21 rfl | exact hC.p 30 rfl | rfl) ?_
                refine VW.iload (pc' := 51) d_Engine_overfills_49 rfl rfl ?_
                refine VW.cV (ci := 6) (T := T6) (N := 1) (pc' := 54) d_Engine_overfills_51 rfl mv_Rows_keyAt lk_Engine_207 rfl (by first | exact hC.k 9 rfl | exact hC.k 10 rfl | exact hC.k 11 rfl | exact hC.k 12 rfl | exact hC.k 21 rfl | exact hC.k 22 rfl | exact hR.1) rfl rfl rfl (Nat.le_refl _) (Nat.le_refl _) (sp_Rows_keyAt hC.st p48) rfl rfl ?_
                refine VW.cV (ci := 0) (T := T0) (N := 8) (pc' := 57) d_Engine_overfills_54 rfl mv_Engine_isWrittenBy lk_Engine_211 rfl (by first | exact hC.k 9 rfl | exact hC.k 10 rfl | exact hC.k 11 rfl | exact hC.k 12 rfl | exact hC.k 21 rfl | exact hC.k 22 rfl | exact hR.1) rfl rfl rfl (Nat.le_refl _) (Nat.le_refl _) (sp_Engine_isWrittenBy hC t6) rfl rfl ?_
                refine VW.if_ne (tgt := 63) (pc' := 60) d_Engine_overfills_57 rfl rfl (fun c57 => ?_) (fun c57 => ?_)
                case refine_1 => exact absurd c57 (by omega)
                refine VW.iinc (pc' := 63) d_Engine_overfills_60 rfl rfl rfl (by omega) ?_
                refine VW.aload_n (pc' := 64) d_Engine_overfills_63 rfl rfl ?_
                refine VW.iload_n (pc' := 65) d_Engine_overfills_64 rfl rfl ?_
                refine VW.iload_n (pc' := 66) d_Engine_overfills_65 rfl rfl ?_
                refine VW.aload_n (pc' := 67) d_Engine_overfills_66 rfl rfl ?_
                refine VW.iload (pc' := 69) d_Engine_overfills_67 rfl rfl ?_
                refine VW.cV (ci := 6) (T := T6) (N := 1) (pc' := 72) d_Engine_overfills_69 rfl mv_Rows_keyAt lk_Engine_207 rfl (by first | exact hC.k 9 rfl | exact hC.k 10 rfl | exact hC.k 11 rfl | exact hC.k 12 rfl | exact hC.k 21 rfl | exact hC.k 22 rfl | exact hR.1) rfl rfl rfl (Nat.le_refl _) (Nat.le_refl _) (sp_Rows_keyAt hR p48) rfl rfl ?_
                refine VW.cV (ci := 0) (T := T0) (N := 8) (pc' := 75) d_Engine_overfills_72 rfl mv_Engine_isWrittenBy lk_Engine_211 rfl (by first | exact hC.k 9 rfl | exact hC.k 10 rfl | exact hC.k 11 rfl | exact hC.k 12 rfl | exact hC.k 21 rfl | exact hC.k 22 rfl | exact hR.1) rfl rfl rfl (Nat.le_refl _) (Nat.le_refl _) (sp_Engine_isWrittenBy hC t6) rfl rfl ?_
                refine VW.if_eq (tgt := 81) (pc' := 78) d_Engine_overfills_75 rfl rfl (fun c75 => ?_) (fun c75 => ?_)
                case refine_1 => exact absurd c75 (by omega)
                refine VW.iinc (pc' := 81) d_Engine_overfills_78 rfl rfl rfl (by omega) ?_
                refine VW.iinc (pc' := 84) d_Engine_overfills_81 rfl rfl rfl (by omega) ?_
                refine VW.goto (pc' := 17) d_Engine_overfills_84 rfl ?_
                refine VW.pick [0, 1, 2, 3, 4, 5] ?_
                exact n9
              · rw [bI0 g2, Int.add_zero] at n9
                have b2 := bI0 g2
                refine VW.iload (pc' := 19) d_Engine_overfills_17 rfl rfl ?_
                refine VW.iload_n (pc' := 20) d_Engine_overfills_19 rfl rfl ?_
                refine VW.iconst (pc' := 21) d_Engine_overfills_20 rfl (by decide) ?_
                refine VW.iadd (pc' := 22) d_Engine_overfills_21 rfl (by omega) ?_
                refine VW.bipush (pc' := 24) d_Engine_overfills_22 rfl (by decide) ?_
                refine VW.imul (pc' := 25) d_Engine_overfills_24 rfl (by omega) ?_
                refine VW.icmp_ge (tgt := 87) (pc' := 28) d_Engine_overfills_25 rfl rfl (fun c25 => ?_) (fun c25 => ?_)
                case refine_1 => exact absurd c25 (by omega)
                refine VW.aload_n (pc' := 29) d_Engine_overfills_28 rfl rfl ?_
                refine VW.gP (ci := 0) (T := T0) (N := 8) (k := 1) (k' := 1) (pc' := 32) d_Engine_overfills_29 rfl lk_Engine_12 in0 rfl rfl rfl rfl (by first | exact hC.k 9 rfl | exact hC.k 10 rfl | exact hC.k 11 rfl | exact hC.k 12 rfl | exact hC.k 21 rfl | exact hC.k 22 rfl | exact hR.1) (by first | exact hC.p 15 rfl | exact hC.p 16 rfl | exact hC.p 19 rfl | exact hC.p 20 rfl | exact hC.p 21 rfl | exact hC.p 30 rfl | rfl) ?_
                refine VW.iload (pc' := 34) d_Engine_overfills_32 rfl rfl ?_
                refine VW.cV (ci := 6) (T := T6) (N := 1) (pc' := 37) d_Engine_overfills_34 rfl mv_Rows_keyAt lk_Engine_207 rfl (by first | exact hC.k 9 rfl | exact hC.k 10 rfl | exact hC.k 11 rfl | exact hC.k 12 rfl | exact hC.k 21 rfl | exact hC.k 22 rfl | exact hR.1) rfl rfl rfl (Nat.le_refl _) (Nat.le_refl _) (sp_Rows_keyAt hC.st p48) rfl rfl ?_
                refine VW.ldc (pc' := 39) (z := -2147483648) d_Engine_overfills_37 rfl lk_Engine_210 (by decide) (by decide) ?_
                refine VW.icmp_eq (tgt := 63) (pc' := 42) d_Engine_overfills_39 rfl rfl (fun c39 => ?_) (fun c39 => ?_)
                case refine_1 => exact absurd c39 (by omega)
                refine VW.aload_n (pc' := 43) d_Engine_overfills_42 rfl rfl ?_
                refine VW.iload_n (pc' := 44) d_Engine_overfills_43 rfl rfl ?_
                refine VW.iload_n (pc' := 45) d_Engine_overfills_44 rfl rfl ?_
                refine VW.aload_n (pc' := 46) d_Engine_overfills_45 rfl rfl ?_
                refine VW.gP (ci := 0) (T := T0) (N := 8) (k := 1) (k' := 1) (pc' := 49) d_Engine_overfills_46 rfl lk_Engine_12 in0 rfl rfl rfl rfl (by first | exact hC.k 9 rfl | exact hC.k 10 rfl | exact hC.k 11 rfl | exact hC.k 12 rfl | exact hC.k 21 rfl | exact hC.k 22 rfl | exact hR.1) (by first | exact hC.p 15 rfl | exact hC.p 16 rfl | exact hC.p 19 rfl | exact hC.p 20 rfl | exact hC.p 21 rfl | exact hC.p 30 rfl | rfl) ?_
                refine VW.iload (pc' := 51) d_Engine_overfills_49 rfl rfl ?_
                refine VW.cV (ci := 6) (T := T6) (N := 1) (pc' := 54) d_Engine_overfills_51 rfl mv_Rows_keyAt lk_Engine_207 rfl (by first | exact hC.k 9 rfl | exact hC.k 10 rfl | exact hC.k 11 rfl | exact hC.k 12 rfl | exact hC.k 21 rfl | exact hC.k 22 rfl | exact hR.1) rfl rfl rfl (Nat.le_refl _) (Nat.le_refl _) (sp_Rows_keyAt hC.st p48) rfl rfl ?_
                refine VW.cV (ci := 0) (T := T0) (N := 8) (pc' := 57) d_Engine_overfills_54 rfl mv_Engine_isWrittenBy lk_Engine_211 rfl (by first | exact hC.k 9 rfl | exact hC.k 10 rfl | exact hC.k 11 rfl | exact hC.k 12 rfl | exact hC.k 21 rfl | exact hC.k 22 rfl | exact hR.1) rfl rfl rfl (Nat.le_refl _) (Nat.le_refl _) (sp_Engine_isWrittenBy hC t6) rfl rfl ?_
                refine VW.if_ne (tgt := 63) (pc' := 60) d_Engine_overfills_57 rfl rfl (fun c57 => ?_) (fun c57 => ?_)
                case refine_1 => exact absurd c57 (by omega)
                refine VW.iinc (pc' := 63) d_Engine_overfills_60 rfl rfl rfl (by omega) ?_
                refine VW.aload_n (pc' := 64) d_Engine_overfills_63 rfl rfl ?_
                refine VW.iload_n (pc' := 65) d_Engine_overfills_64 rfl rfl ?_
                refine VW.iload_n (pc' := 66) d_Engine_overfills_65 rfl rfl ?_
                refine VW.aload_n (pc' := 67) d_Engine_overfills_66 rfl rfl ?_
                refine VW.iload (pc' := 69) d_Engine_overfills_67 rfl rfl ?_
                refine VW.cV (ci := 6) (T := T6) (N := 1) (pc' := 72) d_Engine_overfills_69 rfl mv_Rows_keyAt lk_Engine_207 rfl (by first | exact hC.k 9 rfl | exact hC.k 10 rfl | exact hC.k 11 rfl | exact hC.k 12 rfl | exact hC.k 21 rfl | exact hC.k 22 rfl | exact hR.1) rfl rfl rfl (Nat.le_refl _) (Nat.le_refl _) (sp_Rows_keyAt hR p48) rfl rfl ?_
                refine VW.cV (ci := 0) (T := T0) (N := 8) (pc' := 75) d_Engine_overfills_72 rfl mv_Engine_isWrittenBy lk_Engine_211 rfl (by first | exact hC.k 9 rfl | exact hC.k 10 rfl | exact hC.k 11 rfl | exact hC.k 12 rfl | exact hC.k 21 rfl | exact hC.k 22 rfl | exact hR.1) rfl rfl rfl (Nat.le_refl _) (Nat.le_refl _) (sp_Engine_isWrittenBy hC t6) rfl rfl ?_
                refine VW.if_eq (tgt := 81) (pc' := 78) d_Engine_overfills_75 rfl rfl (fun c75 => ?_) (fun c75 => ?_)
                case refine_2 => exact absurd c75 (by omega)
                refine VW.iinc (pc' := 84) d_Engine_overfills_81 rfl rfl rfl (by omega) ?_
                refine VW.goto (pc' := 17) d_Engine_overfills_84 rfl ?_
                refine VW.pick [0, 1, 2, 3, 4, 5] ?_
                exact n9
      have l9 := inner 8 0 (by omega)
      rw [show t * 8 + ((0 : Nat) : Int) = t * 8 from Int.add_zero _, show ovN I i a t 0 = 0 from rfl] at l9
      clear inner nx yes
      refine VW.iload_n (pc' := 3) d_Engine_overfills_2 rfl rfl ?_
      refine VW.bipush (pc' := 5) d_Engine_overfills_3 rfl (by decide) ?_
      refine VW.icmp_ge (tgt := 102) (pc' := 8) d_Engine_overfills_5 rfl rfl (fun c5 => ?_) (fun c5 => ?_)
      case refine_1 => exact absurd c5 (by omega)
      refine VW.iconst (pc' := 9) d_Engine_overfills_8 rfl (by decide) ?_
      refine VW.istore (pc' := 11) d_Engine_overfills_9 rfl rfl ?_
      refine VW.iload_n (pc' := 12) d_Engine_overfills_11 rfl rfl ?_
      refine VW.bipush (pc' := 14) d_Engine_overfills_12 rfl (by decide) ?_
      refine VW.imul (pc' := 15) d_Engine_overfills_14 rfl (by omega) ?_
      refine VW.istore (pc' := 17) d_Engine_overfills_15 rfl rfl ?_
      refine VW.pick [0, 1, 2, 3, 4, 5] ?_
      exact l9
  have l9 := outer 6 0 (by omega) (Int.le_refl _) (fun q x y => by omega)
  clear outer
  refine VW.iconst (pc' := 1) d_Engine_overfills_0 rfl (by decide) ?_
  refine VW.istore_n (pc' := 2) d_Engine_overfills_1 rfl rfl ?_
  refine VW.pick [0, 1, 2, 3] ?_
  exact l9
end
