section
variable {K : KT} {P : PT} {J I : IT}
/-- records more -/
def LgX (I I' : IT) (g g' n : Nat) (L : List (Int → Int)) : Prop := (∀ (r : Nat) f, r < n → 0 ≤ f → f < 8 → lgF I' g' r f = lgF I g r f) ∧ (∀ (j : Nat) ρ, L[j]? = some ρ → ∀ f, 0 ≤ f → f < 8 → lgF I' g' (n + j : Nat) f = ρ f) ∧ ∀ k, k ≠ 0 → I' 1192 k = I 1192 k
def rcR (k i t y : Int) (row : Int → Int) : Int → Int := fun f => if f = 0 then k else if f = 1 then i else if f = 2 then t else if f = 3 then y else row (f - 4)
def rcN (k i t y : Int) : Int → Int := rcR k i t y (fun _ => -2147483648)
theorem LgX.rf {g n : Nat} : LgX I I g g n [] := ⟨fun _ _ _ _ _ => rfl, fun j ρ h => by simp at h, fun _ _ => rfl⟩
theorem LgX.one {I' : IT} {g g' n : Nat} {k i t y : Int} {row : Int → Int} (h : LgA I I' g g' n k i t y row) : LgX I I' g g' n [rcR k i t y row] := by
  obtain ⟨h1, ⟨h2, h3, h4, h5⟩, h6, h7⟩ := h
  refine ⟨h1, fun j ρ hj f f0 f1 => ?_, h7⟩
  match j, hj with
  | 0, hj =>
    have e : rcR k i t y row = ρ := Option.some.inj hj
    rw [← e]
    unfold rcR
    by_cases a0 : f = 0
    · rw [if_pos a0, a0]; exact h2
    · rw [if_neg a0]
      by_cases a1 : f = 1
      · rw [if_pos a1, a1]; exact h3
      · rw [if_neg a1]
        by_cases a2 : f = 2
        · rw [if_pos a2, a2]; exact h4
        · rw [if_neg a2]
          by_cases a3 : f = 3
          · rw [if_pos a3, a3]; exact h5
          · rw [if_neg a3]
            have := h6 (f - 4) (by omega) (by omega)
            rw [show 4 + (f - 4) = f by omega] at this
            exact this
  | j + 1, hj => simp at hj
theorem LgX.tr {I1 I2 : IT} {g g1 g2 n : Nat} {L1 L2 : List (Int → Int)} (h1 : LgX I I1 g g1 n L1) (h2 : LgX I1 I2 g1 g2 (n + L1.length) L2) : LgX I I2 g g2 n (L1 ++ L2) := by
  obtain ⟨a1, a2, a3⟩ := h1
  obtain ⟨b1, b2, b3⟩ := h2
  refine ⟨fun r f hr f0 f1 => (b1 r f (by omega) f0 f1).trans (a1 r f hr f0 f1), fun j ρ hj f f0 f1 => ?_, fun k hk => (b3 k hk).trans (a3 k hk)⟩
  by_cases h : j < L1.length
  · rw [List.getElem?_append_left h] at hj
    exact (b1 (n + j) f (by omega) f0 f1).trans (a2 j ρ hj f f0 f1)
  · rw [List.getElem?_append_right (by omega)] at hj
    have := b2 (j - L1.length) ρ hj f f0 f1
    rw [show n + L1.length + (j - L1.length) = n + j by omega] at this
    exact this
/-- a write's record -/
theorem log_write {g n r a : Nat} {i t y : Int} (hV : LgV K P g) (hN : LgN I g n) (hn : n < 16384) (hR : RwW K P r a) (hr : ¬ nLg r ∧ ¬ nLg a) (ht : 0 ≤ t ∧ t < 6) : ∃ (g' c m : Nat) (K' : KT) (P' : PT) (I' : IT), (LgV K' P' g' ∧ LgN I' g' (n + 1)) ∧ Fr nLg K P I K' P' I' ∧ (c + g = g' ∧ m + lgP g = lgP g') ∧ LgX I I' g g' n [rcR 0 i t y (fun z => rwCell I a t y z)] ∧
    Sp m_Log_addWrite false ({ frames := 3, cells := c, slots := m, locals := 140 } : Room) (ex K' P' J I' (.inl none)) K P J I [vR (some 1192), vI i, vI t, vI y, vR (some r)] := by
  obtain ⟨g', c, m, K', P', I1, ⟨v1, v2⟩, f1, r1, a1, sp⟩ := log_add (J := J) (k := 0) (i := i) (t := t) (y := y) hV hN hn
  have kr := f1 r hr.1
  have ka := f1 a hr.2
  have hR1 : RwW K' P' r a := ⟨kr.1.trans hR.1, (congrFun kr.2.1 0).trans hR.2.1, ka.1.trans hR.2.2⟩
  have na : a ≠ 12000 + g' := fun z => hr.2 (Or.inr (by have := v1.2.2; omega))
  have efind : rwFind I1 a t y = rwFind I a t y := by
    unfold rwFind rwF
    rw [ka.2.2]
  have rg := rwF_rg I a t y
  have hb := lg_big v1.2.2
  have l0 : I1 1192 0 = ((n + 1 : Nat) : Int) := v2.1
  have l8 := v2.2
  obtain ⟨a2, a3, a4, a5⟩ := a1
  by_cases hp : rwFind I a t y = -1
  · refine ⟨g', c, m, K', P', I1, ⟨v1, v2⟩, f1, r1, LgX.one ⟨a2, a3, fun z z0 z1 => (a4 z z0 z1).trans (if_pos hp).symm, a5⟩, ?_⟩
    refine Sp.ofV (by decide) (Or.inr rfl) rfl ?_
    have hp1 := efind.trans hp
    refine VW.aload_n (pc' := 1) d_Log_addWrite_0 rfl rfl ?_
    refine VW.iconst (pc' := 2) d_Log_addWrite_1 rfl (by decide) ?_
    refine VW.iload_n (pc' := 3) d_Log_addWrite_2 rfl rfl ?_
    refine VW.iload_n (pc' := 4) d_Log_addWrite_3 rfl rfl ?_
    refine VW.iload_n (pc' := 5) d_Log_addWrite_4 rfl rfl ?_
    refine VW.cV (ci := 2) (T := T2) (N := 5) (pc' := 8) d_Log_addWrite_5 rfl mv_Log_add lk_Log_37 rfl (by first | exact v1.1.1 | exact v1.1.2.1.2 | exact hR1.1 | exact hR1.2.2 | exact hV.1.1) rfl rfl rfl (by exact Nat.le_of_eq (Nat.zero_add _)) (by exact Nat.le_of_eq (Nat.zero_add _)) (sp) rfl rfl ?_
    refine VW.aload (pc' := 10) d_Log_addWrite_8 rfl rfl ?_
    refine VW.iload_n (pc' := 11) d_Log_addWrite_10 rfl rfl ?_
    refine VW.iload_n (pc' := 12) d_Log_addWrite_11 rfl rfl ?_
    refine VW.cV (ci := 6) (T := T6) (N := 1) (pc' := 15) d_Log_addWrite_12 rfl mv_Rows_find lk_Log_41 rfl (by first | exact v1.1.1 | exact v1.1.2.1.2 | exact hR1.1 | exact hR1.2.2 | exact hV.1.1) rfl rfl rfl (by show 0 + c + 0 ≤ c; omega) (by show 0 + m + 0 ≤ m; omega) (sp_Rows_find hR1 ht) rfl rfl ?_
    refine VW.istore (pc' := 17) d_Log_addWrite_15 rfl rfl ?_
    refine VW.iload (pc' := 19) d_Log_addWrite_17 rfl rfl ?_
    refine VW.iconst (pc' := 20) d_Log_addWrite_19 rfl (by decide) ?_
    refine VW.icmp_eq (tgt := 52) (pc' := 23) d_Log_addWrite_20 rfl rfl (fun c20 => ?_) (fun c20 => ?_)
    case refine_2 => exact absurd c20 (by omega)
    exact VW.vret d_Log_addWrite_52 rfl (by show 0 + c + 0 ≤ c; omega) (by show 0 + m + 0 ≤ m; omega) ex_rf
  · have hy : y ≠ -2147483648 := fun z => hp (if_pos z)
    have eF : rwFind I a t y = rwF I a t y := if_neg hy
    rw [← eF] at rg
    generalize hq : rwFind I a t y = p at *
    have hp2 : (t * 8 ≤ p ∧ p < t * 8 + 8 ∧ I a (p * 4) = y) := rg.elim (fun z => absurd z hp) id
    have ew : ∀ z, cpyI I1 a (p * 4) (12000 + g') (((n + 1 : Nat) : Int) * 8 - 8 + 4) 4 (12000 + g') z = if (n : Int) * 8 + 4 ≤ z ∧ z < (n : Int) * 8 + 8 then I a (p * 4 + (z - ((n : Int) * 8 + 4))) else I1 (12000 + g') z := fun z => by
      by_cases h : (n : Int) * 8 + 4 ≤ z ∧ z < (n : Int) * 8 + 8
      · rw [if_pos h]
        refine (if_pos ⟨rfl, by omega, by omega⟩).trans ?_
        rw [ka.2.2]; congr 1; omega
      · rw [if_neg h]
        exact if_neg (fun q => h ⟨by omega, by omega⟩)
    have eo : ∀ o, o ≠ 12000 + g' → cpyI I1 a (p * 4) (12000 + g') (((n + 1 : Nat) : Int) * 8 - 8 + 4) 4 o = I1 o := fun o ho => funext (fun z => if_neg (fun q => ho q.1))
    refine ⟨g', c, m, K', P', cpyI I1 a (p * 4) (12000 + g') (((n + 1 : Nat) : Int) * 8 - 8 + 4) 4, ⟨v1, by rw [eo _ (by omega)]; exact v2.1, v2.2⟩, fun o ho => ⟨(f1 o ho).1, (f1 o ho).2.1, (eo o (fun z => ho (Or.inr (by have := v1.2.2; omega)))).trans (f1 o ho).2.2⟩, r1, LgX.one ⟨fun r f hr f0 f1 => ?_, ⟨?_, ?_, ?_, ?_⟩, fun z z0 z1 => ?_, fun k hk => (congrFun (eo _ (by omega)) k).trans (a5 k hk)⟩, ?_⟩
    · unfold lgF
      rw [ew, if_neg (by omega)]
      exact a2 r f hr f0 f1
    · unfold lgF; rw [ew, if_neg (by omega)]; exact a3.1
    · unfold lgF; rw [ew, if_neg (by omega)]; exact a3.2.1
    · unfold lgF; rw [ew, if_neg (by omega)]; exact a3.2.2.1
    · unfold lgF; rw [ew, if_neg (by omega)]; exact a3.2.2.2
    · unfold lgF
      rw [ew, if_pos (by omega)]
      show _ = rwCell I a t y z
      unfold rwCell
      rw [hq, if_neg hp]; congr 1; omega
    · refine Sp.ofV (by decide) (Or.inr rfl) rfl ?_
      have hn1 : ((n + 1 : Nat) : Int) = (n : Int) + 1 := by omega
      have hex : ex K' P' J (cpyI I1 a (p * 4) (12000 + g') (((n + 1 : Nat) : Int) * 8 - 8 + 4) 4) (.inl none) (.inl none) K' P' J (cpyI I1 a (p * 4) (12000 + g') ((((n + 1 : Nat) : Int) - 1) * 8 + 4) 4) := by
        rw [show (((n + 1 : Nat) : Int) - 1) * 8 + 4 = ((n + 1 : Nat) : Int) * 8 - 8 + 4 by omega]
        exact ex_rf
      refine VW.aload_n (pc' := 1) d_Log_addWrite_0 rfl rfl ?_
      refine VW.iconst (pc' := 2) d_Log_addWrite_1 rfl (by decide) ?_
      refine VW.iload_n (pc' := 3) d_Log_addWrite_2 rfl rfl ?_
      refine VW.iload_n (pc' := 4) d_Log_addWrite_3 rfl rfl ?_
      refine VW.iload_n (pc' := 5) d_Log_addWrite_4 rfl rfl ?_
      refine VW.cV (ci := 2) (T := T2) (N := 5) (pc' := 8) d_Log_addWrite_5 rfl mv_Log_add lk_Log_37 rfl (by first | exact v1.1.1 | exact v1.1.2.1.2 | exact hR1.1 | exact hR1.2.2 | exact hV.1.1) rfl rfl rfl (by exact Nat.le_of_eq (Nat.zero_add _)) (by exact Nat.le_of_eq (Nat.zero_add _)) (sp) rfl rfl ?_
      refine VW.aload (pc' := 10) d_Log_addWrite_8 rfl rfl ?_
      refine VW.iload_n (pc' := 11) d_Log_addWrite_10 rfl rfl ?_
      refine VW.iload_n (pc' := 12) d_Log_addWrite_11 rfl rfl ?_
      refine VW.cV (ci := 6) (T := T6) (N := 1) (pc' := 15) d_Log_addWrite_12 rfl mv_Rows_find lk_Log_41 rfl (by first | exact v1.1.1 | exact v1.1.2.1.2 | exact hR1.1 | exact hR1.2.2 | exact hV.1.1) rfl rfl rfl (by show 0 + c + 0 ≤ c; omega) (by show 0 + m + 0 ≤ m; omega) (sp_Rows_find hR1 ht) rfl rfl ?_
      refine VW.istore (pc' := 17) d_Log_addWrite_15 rfl rfl ?_
      refine VW.pick [0, 1, 2, 3, 4, 5] ?_
      rw [efind]
      refine VW.iload (pc' := 19) d_Log_addWrite_17 rfl rfl ?_
      refine VW.iconst (pc' := 20) d_Log_addWrite_19 rfl (by decide) ?_
      refine VW.icmp_eq (tgt := 52) (pc' := 23) d_Log_addWrite_20 rfl rfl (fun c20 => ?_) (fun c20 => ?_)
      case refine_1 => exact absurd c20 (by omega)
      refine VW.aload (pc' := 25) d_Log_addWrite_23 rfl rfl ?_
      refine VW.gP (ci := 6) (T := T6) (N := 1) (k := 0) (k' := 0) (pc' := 28) d_Log_addWrite_25 rfl lk_Log_47 in6 rfl rfl rfl rfl (by first | exact v1.1.1 | exact v1.1.2.1.2 | exact hR1.1 | exact hR1.2.2 | exact hV.1.1) (by first | exact v1.1.2.1.1 | exact hR1.2.1 | exact l0 | rfl) ?_
      refine VW.iload (pc' := 30) d_Log_addWrite_28 rfl rfl ?_
      refine VW.cS (pc' := 33) d_Log_addWrite_30 rfl ms_Rows_startOf lk_Log_50 rfl rfl rfl (by show 0 + c + 0 + 0 ≤ c; omega) (by show 0 + m + 0 + 0 ≤ m; omega) (sp_Rows_startOf (by omega)) rfl rfl ?_
      refine VW.aload_n (pc' := 34) d_Log_addWrite_33 rfl rfl ?_
      refine VW.gP (ci := 2) (T := T2) (N := 5) (k := 2) (k' := 2) (pc' := 37) d_Log_addWrite_34 rfl lk_Log_11 in2 rfl rfl rfl rfl (by first | exact v1.1.1 | exact v1.1.2.1.2 | exact hR1.1 | exact hR1.2.2 | exact hV.1.1) (by first | exact v1.1.2.1.1 | exact hR1.2.1 | exact l0 | rfl) ?_
      refine VW.aload_n (pc' := 38) d_Log_addWrite_37 rfl rfl ?_
      refine VW.gI (ci := 2) (T := T2) (N := 5) (k := 0) (k' := 0) (pc' := 41) d_Log_addWrite_38 rfl lk_Log_22 in2 rfl rfl rfl rfl (by first | exact v1.1.1 | exact v1.1.2.1.2 | exact hR1.1 | exact hR1.2.2 | exact hV.1.1) (by first | exact v1.1.2.1.1 | exact hR1.2.1 | exact l0 | rfl) ?_
      refine VW.iconst (pc' := 42) d_Log_addWrite_41 rfl (by decide) ?_
      refine VW.isub (pc' := 43) d_Log_addWrite_42 rfl (by omega) ?_
      refine VW.bipush (pc' := 45) d_Log_addWrite_43 rfl (by decide) ?_
      refine VW.imul (pc' := 46) d_Log_addWrite_45 rfl (by omega) ?_
      refine VW.iconst (pc' := 47) d_Log_addWrite_46 rfl (by decide) ?_
      refine VW.iadd (pc' := 48) d_Log_addWrite_47 rfl (by omega) ?_
      refine VW.iconst (pc' := 49) d_Log_addWrite_48 rfl (by decide) ?_
      refine VW.copyi (pc' := 52) d_Log_addWrite_49 rfl lk_Log_54 hR1.2.2 v1.1.2.1.2 (by omega) (by omega) (by omega) (by omega) (by omega) rfl rfl ?_
      exact VW.vret d_Log_addWrite_52 rfl (by show 0 + c + 0 + 0 ≤ c; omega) (by show 0 + m + 0 + 0 ≤ m; omega) hex
end
