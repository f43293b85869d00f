/-! the class's storing -/
section
variable {K : KT} {P : PT} {J I : IT}
/-- the rows of written keys are out, of the first places -/
noncomputable def rmI (i : Int) : Nat → IT → IT
  | 0, I => I
  | p + 1, I => if bI (wbG (rmI i p I) i ((p : Int).tdiv 8) (rmI i p I 1161 ((p : Int) * 4))) = 1 then filI (rmI i p I) 1161 ((p : Int) * 4) ((p : Int) * 4 + 4) (-2147483648) else rmI i p I
theorem rmI_y {i : Int} {p : Nat} (h : wbG (rmI i p I) i ((p : Int).tdiv 8) (rmI i p I 1161 ((p : Int) * 4))) : filI (rmI i p I) 1161 ((p : Int) * 4) ((p : Int) * 4 + 4) (-2147483648) = rmI i (p + 1) I := (if_pos (bI1 h)).symm
theorem rmI_n {i : Int} {p : Nat} (h : ¬ wbG (rmI i p I) i ((p : Int).tdiv 8) (rmI i p I 1161 ((p : Int) * 4))) : rmI i p I = rmI i (p + 1) I := (if_neg (by rw [bI0 h]; decide)).symm
theorem rmI_o {i : Int} : ∀ (p : Nat) (o : Nat), o ≠ 1161 → rmI i p I o = I o := by
  intro p
  induction p with
  | zero => intro o _; rfl
  | succ p ih =>
    intro o ho
    by_cases h : wbG (rmI i p I) i ((p : Int).tdiv 8) (rmI i p I 1161 ((p : Int) * 4))
    · rw [← rmI_y h]
      exact (funext (fun k => if_neg (fun z => ho z.1))).trans (ih o ho)
    · rw [← rmI_n h]; exact ih o ho
/-- the own rows of written keys are put, of the first places -/
noncomputable def puI (i : Int) (a : Nat) : Nat → IT → IT
  | 0, I => I
  | p + 1, I => if rwF (puI i a p I) 1161 ((p : Int).tdiv 8) (-2147483648) ≠ -1 ∧ bI (wbG (puI i a p I) i ((p : Int).tdiv 8) (puI i a p I a ((p : Int) * 4))) = 1 then cpyI (puI i a p I) a ((p : Int) * 4) 1161 (rwF (puI i a p I) 1161 ((p : Int).tdiv 8) (-2147483648) * 4) 4 else puI i a p I
theorem puI_y {i : Int} {a p : Nat} (h1 : rwF (puI i a p I) 1161 ((p : Int).tdiv 8) (-2147483648) ≠ -1) (h : wbG (puI i a p I) i ((p : Int).tdiv 8) (puI i a p I a ((p : Int) * 4))) : cpyI (puI i a p I) a ((p : Int) * 4) 1161 (rwF (puI i a p I) 1161 ((p : Int).tdiv 8) (-2147483648) * 4) 4 = puI i a (p + 1) I := (if_pos ⟨h1, bI1 h⟩).symm
theorem puI_n {i : Int} {a p : Nat} (h : rwF (puI i a p I) 1161 ((p : Int).tdiv 8) (-2147483648) = -1 ∨ ¬ wbG (puI i a p I) i ((p : Int).tdiv 8) (puI i a p I a ((p : Int) * 4))) : puI i a p I = puI i a (p + 1) I := (if_neg (fun z => h.elim z.1 (fun w => by have := z.2; rw [bI0 w] at this; exact absurd this (by decide)))).symm
theorem puI_o {i : Int} {a : Nat} : ∀ (p : Nat) (o : Nat), o ≠ 1161 → puI i a p I o = I o := by
  intro p
  induction p with
  | zero => intro o _; rfl
  | succ p ih =>
    intro o ho
    by_cases h1 : rwF (puI i a p I) 1161 ((p : Int).tdiv 8) (-2147483648) = -1
    · rw [← puI_n (Or.inl h1)]; exact ih o ho
    · by_cases h : wbG (puI i a p I) i ((p : Int).tdiv 8) (puI i a p I a ((p : Int) * 4))
      · rw [← puI_y h1 h]
        exact (funext (fun k => if_neg (fun z => ho z.1))).trans (ih o ho)
      · rw [← puI_n (Or.inr h)]; exact ih o ho
theorem td8 {p : Nat} (h : p < 48) : ((p : Int).tdiv 8 = (p : Int) / 8) ∧ 0 ≤ (p : Int).tdiv 8 ∧ (p : Int).tdiv 8 < 6 := by
  have e : (p : Int).tdiv 8 = (p : Int) / 8 := Int.tdiv_eq_ediv_of_nonneg (Int.natCast_nonneg p)
  rw [e]
  omega
theorem rwF_rg2 {a : Nat} {t y : Int} : rwF I a t y = -1 ∨ (t * 8 ≤ rwF I a t y ∧ rwF I a t y < t * 8 + 8 ∧ I a (rwF I a t y * 4) = y) := by
  unfold rwF
  rcases fs_fst (g := fun p => I a (p * 4) = y) 8 (t * 8) with h | ⟨h1, h2, h3⟩
  · exact Or.inl h
  · exact Or.inr ⟨h1, by omega, h3⟩
/-- what is stored, before the record -/
noncomputable def stI (I : IT) (i m : Nat) : IT := fiI (smI (puI i (tX i + 33) 48 (rmI i 48 I)) (tX i + 80 + m) (I (tX i) 17).toNat) (tX i) (tX i + 80 + m) 2 (I (tX i) 17).toNat
theorem store_ex {i l m g n : Nat} (hi : i < 60) (hC : ClW K P) (hT : TxV K P i l m) (hN : TxN I i l m) (h0 : I (tX i) 0 = (i : Int)) (hV : LgV K P g) (hL : LgN I g n) (hn : n < 16384) (hc : 0 ≤ I 1064 7 ∧ I 1064 7 < 100000) :
    ∃ (g' c q : Nat) (K' : KT) (P' : PT) (I5 : IT), (LgV K' P' g' ∧ LgN I5 g' (n + 1) ∧ ClW K' P') ∧ Fr nLg K P (stI I i m) K' P' I5 ∧ (c + g = g' ∧ q + lgP g = lgP g') ∧ LgX (stI I i m) I5 g g' n [rcN 1 i (-2147483648) (-2147483648)] ∧
      Sp m_Engine_store false ({ frames := 5, cells := c, slots := q, locals := 200 } : Room) (ex K' P' J (up2 I5 1192 1 ((n + 1 : Nat) : Int)) (.inl none)) K P J I [vR (some 1064), vR (some (tX i))] := by
  have x0 : 2000 ≤ tX i ∧ tX i + 128 ≤ 10000 := by unfold tX; omega
  have l15 := hT.2.2.2.2
  have ro := fun p o (h : o ≠ 1161) => rmI_o (I := I) (i := (i : Int)) p o h
  have po := fun p o (h : o ≠ 1161) => (puI_o (I := rmI i 48 I) (i := (i : Int)) (a := tX i + 33) p o h).trans (ro 48 o h)
  have so := fun o (h : o ≠ 1161) (h1 : o ≠ 1064) (h2 : o ≠ 1070) (h3 : o ≠ 1071) => (smI_o (I := puI i (tX i + 33) 48 (rmI i 48 I)) (f := tX i + 80 + m) h1 h2 h3 (I (tX i) 17).toNat).trans (po 48 o h)
  have fo : ∀ o, o ≠ 1161 → o ≠ 1064 → o ≠ 1070 → o ≠ 1071 → o ≠ 1069 → o ≠ tX i → stI I i m o = I o := fun o h h1 h2 h3 h4 h5 => by
    unfold stI
    rw [fiI_o h5 h4]; exact so o h h1 h2 h3
  have NU : TxN (puI i (tX i + 33) 48 (rmI i 48 I)) i l m := hN.fl l15 (fun o ho => po 48 o (by unfold nTx at ho; omega))
  have NM : TxN (smI (puI i (tX i + 33) 48 (rmI i 48 I)) (tX i + 80 + m) (I (tX i) 17).toNat) i l m := hN.fl l15 (fun o ho => by unfold nTx at ho; exact so o (by omega) (by omega) (by omega) (by omega))
  have e17 : puI i (tX i + 33) 48 (rmI i 48 I) (tX i) 17 = I (tX i) 17 := by rw [po 48 (tX i) (by omega)]
  have e17' : smI (puI i (tX i + 33) 48 (rmI i 48 I)) (tX i + 80 + m) (I (tX i) 17).toNat (tX i) 17 = I (tX i) 17 := by rw [so (tX i) (by omega) (by omega) (by omega) (by omega)]
  have spM := sp_Engine_stampWrites (J := J) hC hT NU (by rw [po 48 1064 (by decide)]; exact hc)
  rw [e17] at spM
  have spF := sp_Engine_finish (J := J) (ph := 2) hC hT NM
  rw [e17'] at spF
  have hd : fiI (smI (puI i (tX i + 33) 48 (rmI i 48 I)) (tX i + 80 + m) (I (tX i) 17).toNat) (tX i) (tX i + 80 + m) 2 (I (tX i) 17).toNat = stI I i m := rfl
  rw [hd] at spF
  have LS : LgN (stI I i m) g n := by
    unfold LgN at *
    rw [fo 1192 (by decide) (by decide) (by decide) (by decide) (by decide) (by omega)]; exact hL
  have sx0 : stI I i m (tX i) 0 = i := by
    unfold stI
    rw [fiI_x (by omega), if_neg (by decide), if_neg (by decide), so (tX i) (by omega) (by omega) (by omega) (by omega)]; exact h0
  obtain ⟨g', c, q, K', P', I5, ⟨q1, q1'⟩, q2, q3, q4, sp⟩ := log_add (J := J) (k := 1) (i := (i : Int)) (t := -2147483648) (y := -2147483648) hV LS hn
  have C1 := hC.lg hV q1 q2
  refine ⟨g', c, q, K', P', I5, ⟨q1, q1', C1⟩, q2, q3, LgX.one q4, ?_⟩
  have e0 : I5 1192 0 = ((n + 1 : Nat) : Int) := q1'.1
  have hx := hT.k
  have hR := hT.rows
  have hp := hT.pr
  have hA := hC.st
  refine Sp.ofV (by decide) (Or.inr rfl) rfl ?_
  have behind : VW m_Engine_store false ({ frames := 5, cells := c, slots := q, locals := 200 } : Room) (ex K' P' J (up2 I5 1192 1 ((n + 1 : Nat) : Int)) (.inl none)) K P J (puI i (tX i + 33) 48 (rmI i 48 I)) 0 0 120 [(0, vR (some 1064)), (1, vR (some (tX i)))] [] := by
    refine VW.aload_n (pc' := 121) d_Engine_store_120 rfl rfl ?_
    refine VW.aload_n (pc' := 122) d_Engine_store_121 rfl rfl ?_
    refine VW.cV (ci := 0) (T := T0) (N := 8) (pc' := 125) d_Engine_store_122 rfl mv_Engine_stampWrites lk_Engine_231 rfl (by first | exact hC.k 9 rfl | exact hx | exact hR.1 | exact hC.k 23 rfl | exact C1.k 9 rfl | exact C1.k 23 rfl) rfl rfl rfl (by exact Nat.zero_le _) (by exact Nat.zero_le _) (spM) rfl rfl ?_
    refine VW.aload_n (pc' := 126) d_Engine_store_125 rfl rfl ?_
    refine VW.aload_n (pc' := 127) d_Engine_store_126 rfl rfl ?_
    refine VW.iconst (pc' := 128) d_Engine_store_127 rfl (by decide) ?_
    refine VW.cV (ci := 0) (T := T0) (N := 8) (pc' := 131) d_Engine_store_128 rfl mv_Engine_finish lk_Engine_175 rfl (by first | exact hC.k 9 rfl | exact hx | exact hR.1 | exact hC.k 23 rfl | exact C1.k 9 rfl | exact C1.k 23 rfl) rfl rfl rfl (by exact Nat.zero_le _) (by exact Nat.zero_le _) (spF) rfl rfl ?_
    refine VW.aload_n (pc' := 132) d_Engine_store_131 rfl rfl ?_
    refine VW.gP (ci := 0) (T := T0) (N := 8) (k := 3) (k' := 3) (pc' := 135) d_Engine_store_132 rfl lk_Engine_28 in0 rfl rfl rfl rfl (by first | exact hC.k 9 rfl | exact hx | exact hR.1 | exact hC.k 23 rfl | exact C1.k 9 rfl | exact C1.k 23 rfl) (by first | exact sx0 | exact hC.p 18 rfl | exact C1.p 18 rfl | rfl) ?_
    refine VW.iconst (pc' := 136) d_Engine_store_135 rfl (by decide) ?_
    refine VW.aload_n (pc' := 137) d_Engine_store_136 rfl rfl ?_
    refine VW.gI (ci := 8) (T := T8) (N := 19) (k := 0) (k' := 0) (pc' := 140) d_Engine_store_137 rfl lk_Engine_92 in8 rfl rfl rfl rfl (by first | exact hC.k 9 rfl | exact hx | exact hR.1 | exact hC.k 23 rfl | exact C1.k 9 rfl | exact C1.k 23 rfl) (by first | exact sx0 | exact hC.p 18 rfl | exact C1.p 18 rfl | rfl) ?_
    refine VW.ldc (pc' := 142) (z := -2147483648) d_Engine_store_140 rfl lk_Engine_210 (by decide) (by decide) ?_
    refine VW.ldc (pc' := 144) (z := -2147483648) d_Engine_store_142 rfl lk_Engine_210 (by decide) (by decide) ?_
    refine VW.cV (ci := 2) (T := T2) (N := 5) (pc' := 147) d_Engine_store_144 rfl mv_Log_add lk_Engine_234 rfl (by first | exact hC.k 9 rfl | exact hx | exact hR.1 | exact hC.k 23 rfl | exact C1.k 9 rfl | exact C1.k 23 rfl) rfl rfl rfl (by exact (show 0 + c ≤ c by omega)) (by exact (show 0 + q ≤ q by omega)) (sp) rfl rfl ?_
    refine VW.aload_n (pc' := 148) d_Engine_store_147 rfl rfl ?_
    refine VW.gP (ci := 0) (T := T0) (N := 8) (k := 3) (k' := 3) (pc' := 151) d_Engine_store_148 rfl lk_Engine_28 in0 rfl rfl rfl rfl (by first | exact hC.k 9 rfl | exact hx | exact hR.1 | exact hC.k 23 rfl | exact C1.k 9 rfl | exact C1.k 23 rfl) (by first | exact sx0 | exact hC.p 18 rfl | exact C1.p 18 rfl | rfl) ?_
    refine VW.cV (ci := 2) (T := T2) (N := 5) (pc' := 154) d_Engine_store_151 rfl mv_Log_flush lk_Engine_237 rfl (by first | exact hC.k 9 rfl | exact hx | exact hR.1 | exact hC.k 23 rfl | exact C1.k 9 rfl | exact C1.k 23 rfl) rfl rfl rfl (by exact (show 0 + c + 0 ≤ c by omega)) (by exact (show 0 + q + 0 ≤ q by omega)) (sp_Log_flush q1.1) rfl rfl ?_
    exact VW.vret d_Engine_store_154 rfl (by exact (show 0 + c ≤ c by omega)) (by exact (show 0 + q ≤ q by omega)) (by rw [e0]; exact ex_rf)
  have loop2 : ∀ (w p : Nat), p + w = 48 → VW m_Engine_store false ({ frames := 5, cells := c, slots := q, locals := 200 } : Room) (ex K' P' J (up2 I5 1192 1 ((n + 1 : Nat) : Int)) (.inl none)) K P J (puI i (tX i + 33) p (rmI i 48 I)) 0 0 47 [(0, vR (some 1064)), (1, vR (some (tX i))), (2, vI (p : Int))] [] := by
    intro w
    induction w with
    | zero =>
      intro p hp48
      have : p = 48 := by omega
      subst this
      refine VW.iload_n (pc' := 48) d_Engine_store_47 rfl rfl ?_
      refine VW.bipush (pc' := 50) d_Engine_store_48 rfl (by decide) ?_
      refine VW.icmp_ge (tgt := 120) (pc' := 53) d_Engine_store_50 rfl rfl (fun c50 => ?_) (fun c50 => ?_)
      case refine_2 => exact absurd c50 (by omega)
      refine VW.pick [0, 1] ?_
      exact behind
    | succ w ih =>
      intro p hp48
      obtain ⟨t1, t2, t3⟩ := td8 (p := p) (by omega)
      have n9 : VW m_Engine_store false ({ frames := 5, cells := c, slots := q, locals := 200 } : Room) (ex K' P' J (up2 I5 1192 1 ((n + 1 : Nat) : Int)) (.inl none)) K P J (puI i (tX i + 33) (p + 1) (rmI i 48 I)) 0 0 47 [(0, vR (some 1064)), (1, vR (some (tX i))), (2, vI ((p + 1 : Nat) : Int))] [] := ih (p + 1) (by omega)
      have ux0 : puI i (tX i + 33) p (rmI i 48 I) (tX i) 0 = i := by rw [po p (tX i) (by omega)]; exact h0
      have fr := rwF_rg2 (I := puI i (tX i + 33) p (rmI i 48 I)) (a := 1161) (t := (p : Int).tdiv 8) (y := -2147483648)
      have no : (rwF (puI i (tX i + 33) p (rmI i 48 I)) 1161 ((p : Int).tdiv 8) (-2147483648) = -1 ∨ ¬ wbG (puI i (tX i + 33) p (rmI i 48 I)) i ((p : Int).tdiv 8) (puI i (tX i + 33) p (rmI i 48 I) (tX i + 33) ((p : Int) * 4))) → VW m_Engine_store false ({ frames := 5, cells := c, slots := q, locals := 200 } : Room) (ex K' P' J (up2 I5 1192 1 ((n + 1 : Nat) : Int)) (.inl none)) K P J (puI i (tX i + 33) p (rmI i 48 I)) 0 0 47 [(0, vR (some 1064)), (1, vR (some (tX i))), (2, vI ((p + 1 : Nat) : Int))] [] := fun h => by rw [puI_n h]; exact n9
      have yes : rwF (puI i (tX i + 33) p (rmI i 48 I)) 1161 ((p : Int).tdiv 8) (-2147483648) ≠ -1 → wbG (puI i (tX i + 33) p (rmI i 48 I)) i ((p : Int).tdiv 8) (puI i (tX i + 33) p (rmI i 48 I) (tX i + 33) ((p : Int) * 4)) → VW m_Engine_store false ({ frames := 5, cells := c, slots := q, locals := 200 } : Room) (ex K' P' J (up2 I5 1192 1 ((n + 1 : Nat) : Int)) (.inl none)) K P J (cpyI (puI i (tX i + 33) p (rmI i 48 I)) (tX i + 33) ((p : Int) * 4) 1161 (rwF (puI i (tX i + 33) p (rmI i 48 I)) 1161 ((p : Int).tdiv 8) (-2147483648) * 4) 4) 0 0 47 [(0, vR (some 1064)), (1, vR (some (tX i))), (2, vI ((p + 1 : Nat) : Int))] [] := fun h1 h => by rw [puI_y h1 h]; exact n9
      have cp : ((p + 1 : Nat) : Int) = (p : Int) + 1 := by omega
      rw [cp] at no yes
      clear ih n9
      refine VW.iload_n (pc' := 48) d_Engine_store_47 rfl rfl ?_
      refine VW.bipush (pc' := 50) d_Engine_store_48 rfl (by decide) ?_
      refine VW.icmp_ge (tgt := 120) (pc' := 53) d_Engine_store_50 rfl rfl (fun c50 => ?_) (fun c50 => ?_)
      case refine_1 => exact absurd c50 (by omega)
      refine VW.iload_n (pc' := 54) d_Engine_store_53 rfl rfl ?_
      refine VW.bipush (pc' := 56) d_Engine_store_54 rfl (by decide) ?_
      refine VW.idiv (pc' := 57) d_Engine_store_56 rfl (by decide) (by rw [t1]; omega) ?_
      refine VW.istore_n (pc' := 58) d_Engine_store_57 rfl rfl ?_
      refine VW.aload_n (pc' := 59) d_Engine_store_58 rfl rfl ?_
      refine VW.gP (ci := 0) (T := T0) (N := 8) (k := 1) (k' := 1) (pc' := 62) d_Engine_store_59 rfl lk_Engine_12 in0 rfl rfl rfl rfl (by first | exact hC.k 9 rfl | exact hx | exact hR.1 | exact hA.1) (by first | exact ux0 | exact hp | exact hR.2.1 | exact hC.p 16 rfl | rfl) ?_
      refine VW.iload_n (pc' := 63) d_Engine_store_62 rfl rfl ?_
      refine VW.cV (ci := 6) (T := T6) (N := 1) (pc' := 66) d_Engine_store_63 rfl mv_Rows_findFree lk_Engine_218 rfl (by first | exact hC.k 9 rfl | exact hx | exact hR.1 | exact hA.1) rfl rfl rfl (by exact Nat.zero_le _) (by exact Nat.zero_le _) (sp_Rows_findFree hA ⟨t2, t3⟩) rfl rfl ?_
      refine VW.istore (pc' := 68) d_Engine_store_66 rfl rfl ?_
      refine VW.iload (pc' := 70) d_Engine_store_68 rfl rfl ?_
      refine VW.iconst (pc' := 71) d_Engine_store_70 rfl (by decide) ?_
      refine VW.icmp_eq (tgt := 114) (pc' := 74) d_Engine_store_71 rfl rfl (fun c71 => ?_) (fun c71 => ?_)
      · refine VW.iinc (pc' := 117) d_Engine_store_114 rfl rfl rfl (by omega) ?_
        refine VW.goto (pc' := 47) d_Engine_store_117 rfl ?_
        refine VW.pick [0, 1, 2] ?_
        first | exact no (Or.inl c71) | exact no (Or.inr e91) | exact yes c71 e91
      · refine VW.aload_n (pc' := 75) d_Engine_store_74 rfl rfl ?_
        refine VW.aload_n (pc' := 76) d_Engine_store_75 rfl rfl ?_
        refine VW.gI (ci := 8) (T := T8) (N := 19) (k := 0) (k' := 0) (pc' := 79) d_Engine_store_76 rfl lk_Engine_92 in8 rfl rfl rfl rfl (by first | exact hC.k 9 rfl | exact hx | exact hR.1 | exact hA.1) (by first | exact ux0 | exact hp | exact hR.2.1 | exact hC.p 16 rfl | rfl) ?_
        refine VW.iload_n (pc' := 80) d_Engine_store_79 rfl rfl ?_
        refine VW.aload_n (pc' := 81) d_Engine_store_80 rfl rfl ?_
        refine VW.gP (ci := 8) (T := T8) (N := 19) (k := 3) (k' := 3) (pc' := 84) d_Engine_store_81 rfl lk_Engine_81 in8 rfl rfl rfl rfl (by first | exact hC.k 9 rfl | exact hx | exact hR.1 | exact hA.1) (by first | exact ux0 | exact hp | exact hR.2.1 | exact hC.p 16 rfl | rfl) ?_
        refine VW.iload_n (pc' := 85) d_Engine_store_84 rfl rfl ?_
        refine VW.cV (ci := 6) (T := T6) (N := 1) (pc' := 88) d_Engine_store_85 rfl mv_Rows_keyAt lk_Engine_207 rfl (by first | exact hC.k 9 rfl | exact hx | exact hR.1 | exact hA.1) rfl rfl rfl (by exact Nat.zero_le _) (by exact Nat.zero_le _) (sp_Rows_keyAt hR ⟨by omega, by omega⟩) rfl rfl ?_
        refine VW.cV (ci := 0) (T := T0) (N := 8) (pc' := 91) d_Engine_store_88 rfl mv_Engine_isWrittenBy lk_Engine_211 rfl (by first | exact hC.k 9 rfl | exact hx | exact hR.1 | exact hA.1) rfl rfl rfl (by exact Nat.zero_le _) (by exact Nat.zero_le _) (sp_Engine_isWrittenBy hC ⟨t2, t3⟩) rfl rfl ?_
        refine VW.if_eq (tgt := 114) (pc' := 94) d_Engine_store_91 rfl rfl (fun c91 => ?_) (fun c91 => ?_)
        · try have e91 := bIe c91
          refine VW.iinc (pc' := 117) d_Engine_store_114 rfl rfl rfl (by omega) ?_
          refine VW.goto (pc' := 47) d_Engine_store_117 rfl ?_
          refine VW.pick [0, 1, 2] ?_
          first | exact no (Or.inl c71) | exact no (Or.inr e91) | exact yes c71 e91
        · try have e91 := bIn c91
          refine VW.aload_n (pc' := 95) d_Engine_store_94 rfl rfl ?_
          refine VW.gP (ci := 0) (T := T0) (N := 8) (k := 1) (k' := 1) (pc' := 98) d_Engine_store_95 rfl lk_Engine_12 in0 rfl rfl rfl rfl (by first | exact hC.k 9 rfl | exact hx | exact hR.1 | exact hA.1) (by first | exact ux0 | exact hp | exact hR.2.1 | exact hC.p 16 rfl | rfl) ?_
          refine VW.iload (pc' := 100) d_Engine_store_98 rfl rfl ?_
          refine VW.aload_n (pc' := 101) d_Engine_store_100 rfl rfl ?_
          refine VW.gP (ci := 8) (T := T8) (N := 19) (k := 3) (k' := 3) (pc' := 104) d_Engine_store_101 rfl lk_Engine_81 in8 rfl rfl rfl rfl (by first | exact hC.k 9 rfl | exact hx | exact hR.1 | exact hA.1) (by first | exact ux0 | exact hp | exact hR.2.1 | exact hC.p 16 rfl | rfl) ?_
          refine VW.gP (ci := 6) (T := T6) (N := 1) (k := 0) (k' := 0) (pc' := 107) d_Engine_store_104 rfl lk_Engine_221 in6 rfl rfl rfl rfl (by first | exact hC.k 9 rfl | exact hx | exact hR.1 | exact hA.1) (by first | exact ux0 | exact hp | exact hR.2.1 | exact hC.p 16 rfl | rfl) ?_
          refine VW.iload_n (pc' := 108) d_Engine_store_107 rfl rfl ?_
          refine VW.cS (pc' := 111) d_Engine_store_108 rfl ms_Rows_startOf lk_Engine_224 rfl rfl rfl (by exact Nat.zero_le _) (by exact Nat.zero_le _) (sp_Rows_startOf ⟨by omega, by omega⟩) rfl rfl ?_
          refine VW.cV (ci := 6) (T := T6) (N := 1) (pc' := 114) d_Engine_store_111 rfl mv_Rows_put lk_Engine_227 rfl (by first | exact hC.k 9 rfl | exact hx | exact hR.1 | exact hA.1) rfl rfl rfl (by exact Nat.zero_le _) (by exact Nat.zero_le _) (sp_Rows_put hA (by have := fr.resolve_left c71; omega) hR.2.2 ⟨by omega, by omega⟩) rfl rfl ?_
          refine VW.iinc (pc' := 117) d_Engine_store_114 rfl rfl rfl (by omega) ?_
          refine VW.goto (pc' := 47) d_Engine_store_117 rfl ?_
          refine VW.pick [0, 1, 2] ?_
          first | exact no (Or.inl c71) | exact no (Or.inr e91) | exact yes c71 e91
  have l2 := loop2 48 0 (by omega)
  have loop1 : ∀ (w p : Nat), p + w = 48 → VW m_Engine_store false ({ frames := 5, cells := c, slots := q, locals := 200 } : Room) (ex K' P' J (up2 I5 1192 1 ((n + 1 : Nat) : Int)) (.inl none)) K P J (rmI i p I) 0 0 2 [(0, vR (some 1064)), (1, vR (some (tX i))), (2, vI (p : Int))] [] := by
    intro w
    induction w with
    | zero =>
      intro p hp48
      have : p = 48 := by omega
      subst this
      refine VW.iload_n (pc' := 3) d_Engine_store_2 rfl rfl ?_
      refine VW.bipush (pc' := 5) d_Engine_store_3 rfl (by decide) ?_
      refine VW.icmp_ge (tgt := 45) (pc' := 8) d_Engine_store_5 rfl rfl (fun c5 => ?_) (fun c5 => ?_)
      case refine_2 => exact absurd c5 (by omega)
      refine VW.iconst (pc' := 46) d_Engine_store_45 rfl (by decide) ?_
      refine VW.istore_n (pc' := 47) d_Engine_store_46 rfl rfl ?_
      refine VW.pick [0, 1, 2] ?_
      exact l2
    | succ w ih =>
      intro p hp48
      obtain ⟨t1, t2, t3⟩ := td8 (p := p) (by omega)
      have n9 : VW m_Engine_store false ({ frames := 5, cells := c, slots := q, locals := 200 } : Room) (ex K' P' J (up2 I5 1192 1 ((n + 1 : Nat) : Int)) (.inl none)) K P J (rmI i (p + 1) I) 0 0 2 [(0, vR (some 1064)), (1, vR (some (tX i))), (2, vI ((p + 1 : Nat) : Int))] [] := ih (p + 1) (by omega)
      have ux0 : rmI i p I (tX i) 0 = i := by rw [ro p (tX i) (by omega)]; exact h0
      have no : ¬ wbG (rmI i p I) i ((p : Int).tdiv 8) (rmI i p I 1161 ((p : Int) * 4)) → VW m_Engine_store false ({ frames := 5, cells := c, slots := q, locals := 200 } : Room) (ex K' P' J (up2 I5 1192 1 ((n + 1 : Nat) : Int)) (.inl none)) K P J (rmI i p I) 0 0 2 [(0, vR (some 1064)), (1, vR (some (tX i))), (2, vI ((p + 1 : Nat) : Int))] [] := fun h => by rw [rmI_n h]; exact n9
      have yes : wbG (rmI i p I) i ((p : Int).tdiv 8) (rmI i p I 1161 ((p : Int) * 4)) → VW m_Engine_store false ({ frames := 5, cells := c, slots := q, locals := 200 } : Room) (ex K' P' J (up2 I5 1192 1 ((n + 1 : Nat) : Int)) (.inl none)) K P J (filI (rmI i p I) 1161 ((p : Int) * 4) ((p : Int) * 4 + 4) (-2147483648)) 0 0 2 [(0, vR (some 1064)), (1, vR (some (tX i))), (2, vI ((p + 1 : Nat) : Int))] [] := fun h => by rw [rmI_y h]; exact n9
      have cp : ((p + 1 : Nat) : Int) = (p : Int) + 1 := by omega
      rw [cp] at no yes
      clear ih n9
      refine VW.iload_n (pc' := 3) d_Engine_store_2 rfl rfl ?_
      refine VW.bipush (pc' := 5) d_Engine_store_3 rfl (by decide) ?_
      refine VW.icmp_ge (tgt := 45) (pc' := 8) d_Engine_store_5 rfl rfl (fun c5 => ?_) (fun c5 => ?_)
      case refine_1 => exact absurd c5 (by omega)
      refine VW.aload_n (pc' := 9) d_Engine_store_8 rfl rfl ?_
      refine VW.aload_n (pc' := 10) d_Engine_store_9 rfl rfl ?_
      refine VW.gI (ci := 8) (T := T8) (N := 19) (k := 0) (k' := 0) (pc' := 13) d_Engine_store_10 rfl lk_Engine_92 in8 rfl rfl rfl rfl (by first | exact hC.k 9 rfl | exact hx | exact hR.1 | exact hA.1) (by first | exact ux0 | exact hp | exact hR.2.1 | exact hC.p 16 rfl | rfl) ?_
      refine VW.iload_n (pc' := 14) d_Engine_store_13 rfl rfl ?_
      refine VW.bipush (pc' := 16) d_Engine_store_14 rfl (by decide) ?_
      refine VW.idiv (pc' := 17) d_Engine_store_16 rfl (by decide) (by rw [t1]; omega) ?_
      refine VW.aload_n (pc' := 18) d_Engine_store_17 rfl rfl ?_
      refine VW.gP (ci := 0) (T := T0) (N := 8) (k := 1) (k' := 1) (pc' := 21) d_Engine_store_18 rfl lk_Engine_12 in0 rfl rfl rfl rfl (by first | exact hC.k 9 rfl | exact hx | exact hR.1 | exact hA.1) (by first | exact ux0 | exact hp | exact hR.2.1 | exact hC.p 16 rfl | rfl) ?_
      refine VW.iload_n (pc' := 22) d_Engine_store_21 rfl rfl ?_
      refine VW.cV (ci := 6) (T := T6) (N := 1) (pc' := 25) d_Engine_store_22 rfl mv_Rows_keyAt lk_Engine_207 rfl (by first | exact hC.k 9 rfl | exact hx | exact hR.1 | exact hA.1) rfl rfl rfl (by exact Nat.zero_le _) (by exact Nat.zero_le _) (sp_Rows_keyAt hA ⟨by omega, by omega⟩) rfl rfl ?_
      refine VW.cV (ci := 0) (T := T0) (N := 8) (pc' := 28) d_Engine_store_25 rfl mv_Engine_isWrittenBy lk_Engine_211 rfl (by first | exact hC.k 9 rfl | exact hx | exact hR.1 | exact hA.1) rfl rfl rfl (by exact Nat.zero_le _) (by exact Nat.zero_le _) (sp_Engine_isWrittenBy hC ⟨t2, t3⟩) rfl rfl ?_
      refine VW.if_eq (tgt := 39) (pc' := 31) d_Engine_store_28 rfl rfl (fun c28 => ?_) (fun c28 => ?_)
      · try have e28 := bIe c28
        refine VW.iinc (pc' := 42) d_Engine_store_39 rfl rfl rfl (by omega) ?_
        refine VW.goto (pc' := 2) d_Engine_store_42 rfl ?_
        refine VW.pick [0, 1, 2] ?_
        first | exact no e28 | exact yes e28
      · try have e28 := bIn c28
        refine VW.aload_n (pc' := 32) d_Engine_store_31 rfl rfl ?_
        refine VW.gP (ci := 0) (T := T0) (N := 8) (k := 1) (k' := 1) (pc' := 35) d_Engine_store_32 rfl lk_Engine_12 in0 rfl rfl rfl rfl (by first | exact hC.k 9 rfl | exact hx | exact hR.1 | exact hA.1) (by first | exact ux0 | exact hp | exact hR.2.1 | exact hC.p 16 rfl | rfl) ?_
        refine VW.iload_n (pc' := 36) d_Engine_store_35 rfl rfl ?_
        refine VW.cV (ci := 6) (T := T6) (N := 1) (pc' := 39) d_Engine_store_36 rfl mv_Rows_remove lk_Engine_215 rfl (by first | exact hC.k 9 rfl | exact hx | exact hR.1 | exact hA.1) rfl rfl rfl (by exact Nat.zero_le _) (by exact Nat.zero_le _) (sp_Rows_remove hA ⟨by omega, by omega⟩) rfl rfl ?_
        refine VW.iinc (pc' := 42) d_Engine_store_39 rfl rfl rfl (by omega) ?_
        refine VW.goto (pc' := 2) d_Engine_store_42 rfl ?_
        refine VW.pick [0, 1, 2] ?_
        first | exact no e28 | exact yes e28
  have l1 := loop1 48 0 (by omega)
  refine VW.iconst (pc' := 1) d_Engine_store_0 rfl (by decide) ?_
  refine VW.istore_n (pc' := 2) d_Engine_store_1 rfl rfl ?_
  refine VW.pick [0, 1, 2] ?_
  exact l1
end
