/-! a transaction by its number: its names, its levels of growth, what it has read -/
section
variable {K : KT} {P : PT} {J I : IT}
def tX (i : Nat) : Nat := 2000 + 128 * i
/-- what is not in A stays -/
def Fr (A : Nat → Prop) (K : KT) (P : PT) (I : IT) (K' : KT) (P' : PT) (I' : IT) : Prop := ∀ o, ¬ A o → K' o = K o ∧ P' o = P o ∧ I' o = I o
theorem Fr.rf {A : Nat → Prop} : Fr A K P I K P I := fun _ _ => ⟨rfl, rfl, rfl⟩
theorem Fr.tr {A : Nat → Prop} {K1 K2 : KT} {P1 P2 : PT} {I1 I2 : IT} (h : Fr A K P I K1 P1 I1) (h' : Fr A K1 P1 I1 K2 P2 I2) : Fr A K P I K2 P2 I2 := fun o q => ⟨(h' o q).1.trans (h o q).1, (h' o q).2.1.trans (h o q).2.1, (h' o q).2.2.trans (h o q).2.2⟩
theorem Fr.mo {A B : Nat → Prop} {K1 : KT} {P1 : PT} {I1 : IT} (h : Fr A K P I K1 P1 I1) (hAB : ∀ o, A o → B o) : Fr B K P I K1 P1 I1 := fun o q => h o (fun z => q (hAB o z))
def nTx (i o : Nat) : Prop := tX i ≤ o ∧ o < tX i + 128
def TxV (K : KT) (P : PT) (i l m : Nat) : Prop := TxW K P (tX i) (tX i + 32) (tX i + 13) (tX i + 40 + l) (tX i + 60 + l) (8 * 2 ^ l) (tX i + 80 + m) (8 * 2 ^ m) ∧ RwW K P (tX i + 32) (tX i + 33) ∧ (∀ j, l < j → j < 20 → K (tX i + 40 + j) = none ∧ K (tX i + 60 + j) = none) ∧ (∀ j, m < j → j < 20 → K (tX i + 80 + j) = none) ∧ l < 15 ∧ m < 15
/-- bounds of its numbers -/
def TxN (I : IT) (i l m : Nat) : Prop := (0 ≤ I (tX i) 14 ∧ I (tX i) 14 ≤ 8 * 2 ^ l ∧ I (tX i) 14 ≤ 100000 ∧ (l = 0 ∨ 4 * 2 ^ l < I (tX i) 14)) ∧ (0 ≤ I (tX i) 17 ∧ I (tX i) 17 ≤ 8 * 2 ^ m ∧ I (tX i) 17 ≤ 100000 ∧ (m = 0 ∨ 4 * 2 ^ m < I (tX i) 17)) ∧ (∀ j, 0 ≤ j → j < I (tX i) 14 → 0 ≤ I (tX i + 40 + l) j ∧ I (tX i + 40 + l) j < 6) ∧ (0 ≤ I (tX i) 13 ∧ I (tX i) 13 < 64) ∧ ∀ j, 0 ≤ j → j < I (tX i) 17 → 0 ≤ I (tX i + 80 + m) j ∧ I (tX i + 80 + m) j < 12006
/-- slots that growth has taken -/
def ps (l : Nat) : Nat := 32 * 2 ^ l
theorem ps_up (l : Nat) : ps l + 2 * (2 * (8 * 2 ^ l)) = ps (l + 1) := by unfold ps; rw [Nat.pow_succ]; omega
def pf (l : Nat) : Nat := 16 * 2 ^ l
theorem pf_up (l : Nat) : pf l + 2 * (8 * 2 ^ l) = pf (l + 1) := by unfold pf; rw [Nat.pow_succ]; omega
theorem lev_lt {l : Nat} {z : Int} (h : z ≤ 100000) (e : z = 8 * 2 ^ l) : l < 14 := by
  refine Classical.byContradiction (fun q => ?_)
  have : 2 ^ 14 ≤ 2 ^ l := Nat.pow_le_pow_right (by decide) (by omega)
  have e2 : (2 : Int) ^ l = ((2 ^ l : Nat) : Int) := by simp
  rw [e2] at e
  omega
theorem sp_Transaction_readKey1 {x r w a b n f n2 : Nat} {o o2 : Nat} {t y : Int} (hG : TxW K P x r w a b n f n2) (hr : 0 ≤ I x 14 ∧ I x 14 = n ∧ n ≤ 524288 ∧ 0 < n) (hg : ¬ txRd I x a b t y = 1) (ho : K o = none) (ho2 : K o2 = none) (hoo : o ≠ o2) : Sp m_Transaction_readKey false ({ frames := 2, cells := 2, slots := 2 * (2 * n), locals := 90 } : Room) (ex (upK (upK K o (100, 2 * n)) o2 (100, 2 * n)) (up2 (up2 P x 15 (some o)) x 16 (some o2)) J (txKey (cpyI (cpyI I a 0 o 0 n) b 0 o2 0 n) x o o2 t y) (.inl none)) K P J I [vR (some x), vI t, vI y] := by
  refine Sp.ofV (by decide) (Or.inr rfl) rfl ?_
  have no : ∀ {q : Nat} {v : Nat × Nat}, K q = some v → q ≠ o := fun h z => by rw [z, ho] at h; cases h
  have no2 : ∀ {q : Nat} {v : Nat × Nat}, K q = some v → q ≠ o2 := fun h z => by rw [z, ho2] at h; cases h
  have k1 : ∀ {q : Nat} {v : Nat × Nat}, K q = some v → upK K o (100, 2 * n) q = some v := fun h => (upK_o _ _ (no h)).trans h
  have k2 : ∀ {q : Nat} {v : Nat × Nat}, upK K o (100, 2 * n) q = some v → q ≠ o2 → (upK (upK K o (100, 2 * n)) o2 (100, 2 * n)) q = some v := fun h z => (upK_o _ _ z).trans h
  have x1 : upK K o (100, 2 * n) x = some (8, 0) := k1 hG.1
  have x2 : (upK (upK K o (100, 2 * n)) o2 (100, 2 * n)) x = some (8, 0) := k2 x1 (no2 hG.1)
  have y1 : (upK (upK K o (100, 2 * n)) o2 (100, 2 * n)) o = some (100, 2 * n) := k2 (upK_eq _ _ _) hoo
  have y2 : (upK (upK K o (100, 2 * n)) o2 (100, 2 * n)) o2 = some (100, 2 * n) := upK_eq _ _ _
  have b1 : upK K o (100, 2 * n) b = some (100, n) := k1 hG.2.2.2.2.1.2
  have eb : up2 P x 15 (some o) x 16 = some b := (up2_k _ _ _ _ (by decide)).trans hG.2.2.2.2.1.1
  have ho2' : upK K o (100, 2 * n) o2 = none := (upK_o _ _ (fun z => hoo z.symm)).trans ho2
  have pa : (up2 (up2 P x 15 (some o)) x 16 (some o2)) x 15 = some o := (up2_k _ _ _ _ (by decide)).trans (up2_eq _ _ _ _)
  have pb : (up2 (up2 P x 15 (some o)) x 16 (some o2)) x 16 = some o2 := up2_eq _ _ _ _
  have xa := no hG.1
  have xb := no2 hG.1
  have i14 : (cpyI (cpyI I a 0 o 0 n) b 0 o2 0 n) x 14 = I x 14 := (if_neg (fun q => xb q.1)).trans (if_neg (fun q => xa q.1))
  have j14 : (cpyI I a 0 o 0 n) x 14 = I x 14 := if_neg (fun q => xa q.1)
  have w2 : txRd I x a b t y = 0 ∨ txRd I x a b t y = 1 := bI_01 _
  have e : VW m_Transaction_readKey false ({ frames := 2, cells := 2, slots := 2 * (2 * n), locals := 90 } : Room) (ex (upK (upK K o (100, 2 * n)) o2 (100, 2 * n)) (up2 (up2 P x 15 (some o)) x 16 (some o2)) J (txKey (cpyI (cpyI I a 0 o 0 n) b 0 o2 0 n) x o o2 t y) (.inl none)) (upK (upK K o (100, 2 * n)) o2 (100, 2 * n)) (up2 (up2 P x 15 (some o)) x 16 (some o2)) J (cpyI (cpyI I a 0 o 0 n) b 0 o2 0 n) (0 + 1 + 1) (0 + 2 * n + 2 * n) 56 [(0, vR (some x)), (1, vI t), (2, vI y)] [] := by
    unfold txKey
    rw [i14]
    refine VW.aload_n (pc' := 57) d_Transaction_readKey_56 rfl rfl ?_
    refine VW.gP (ci := 8) (T := T8) (N := 19) (k := 15) (k' := 15) (pc' := 60) d_Transaction_readKey_57 rfl lk_Transaction_32 in8 rfl rfl rfl rfl (by first | exact x2 | exact y1 | exact y2) (by first | exact pa | exact pb | exact i14) ?_
    refine VW.aload_n (pc' := 61) d_Transaction_readKey_60 rfl rfl ?_
    refine VW.gI (ci := 8) (T := T8) (N := 19) (k := 14) (k' := 14) (pc' := 64) d_Transaction_readKey_61 rfl lk_Transaction_85 in8 rfl rfl rfl rfl (by first | exact x2 | exact y1 | exact y2) (by first | exact pa | exact pb | exact i14) ?_
    refine VW.iload_n (pc' := 65) d_Transaction_readKey_64 rfl rfl ?_
    refine VW.iast (pc' := 66) d_Transaction_readKey_65 rfl (by first | exact x2 | exact y1 | exact y2) (by omega) (by omega) ?_
    refine VW.aload_n (pc' := 67) d_Transaction_readKey_66 rfl rfl ?_
    refine VW.gP (ci := 8) (T := T8) (N := 19) (k := 16) (k' := 16) (pc' := 70) d_Transaction_readKey_67 rfl lk_Transaction_35 in8 rfl rfl rfl rfl (by first | exact x2 | exact y1 | exact y2) (by first | exact pa | exact pb | exact i14) ?_
    refine VW.aload_n (pc' := 71) d_Transaction_readKey_70 rfl rfl ?_
    refine VW.gI (ci := 8) (T := T8) (N := 19) (k := 14) (k' := 14) (pc' := 74) d_Transaction_readKey_71 rfl lk_Transaction_85 in8 rfl rfl rfl rfl (by first | exact x2 | exact y1 | exact y2) ((up2_o _ _ _ _ xa).trans i14) ?_
    refine VW.iload_n (pc' := 75) d_Transaction_readKey_74 rfl rfl ?_
    refine VW.iast (pc' := 76) d_Transaction_readKey_75 rfl (by first | exact x2 | exact y1 | exact y2) (by omega) (by omega) ?_
    refine VW.aload_n (pc' := 77) d_Transaction_readKey_76 rfl rfl ?_
    refine VW.dup (pc' := 78) d_Transaction_readKey_77 rfl rfl ?_
    refine VW.gI (ci := 8) (T := T8) (N := 19) (k := 14) (k' := 14) (pc' := 81) d_Transaction_readKey_78 rfl lk_Transaction_85 in8 rfl rfl rfl rfl (by first | exact x2 | exact y1 | exact y2) ((up2_o _ _ _ _ xb).trans ((up2_o _ _ _ _ xa).trans i14)) ?_
    refine VW.iconst (pc' := 82) d_Transaction_readKey_81 rfl (by decide) ?_
    refine VW.iadd (pc' := 83) d_Transaction_readKey_82 rfl (by omega) ?_
    refine VW.pI (ci := 8) (T := T8) (N := 19) (k := 14) (k' := 14) (ty := ty8) (pc' := 86) d_Transaction_readKey_83 rfl lk_Transaction_85 in8 tk8 nm8 rfl rfl rfl rfl rfl rfl (by first | exact x2 | exact y1 | exact y2) ?_
    exact VW.vret d_Transaction_readKey_86 rfl (by exact Nat.le_refl _) (by exact (by omega : 0 + 2 * n + 2 * n ≤ 2 * (2 * n))) ex_rf
  refine VW.aload_n (pc' := 1) d_Transaction_readKey_0 rfl rfl ?_
  refine VW.iload_n (pc' := 2) d_Transaction_readKey_1 rfl rfl ?_
  refine VW.iload_n (pc' := 3) d_Transaction_readKey_2 rfl rfl ?_
  refine VW.cV (ci := 8) (T := T8) (N := 19) (pc' := 6) d_Transaction_readKey_3 rfl mv_Transaction_hasReadKey lk_Transaction_81 rfl (by first | exact hG.1 | exact hG.2.2.2.1.2 | exact hG.2.2.2.2.1.2 | exact x1 | exact x2) rfl rfl rfl (Nat.zero_le _) (Nat.zero_le _) (sp_Transaction_hasReadKey hG (by omega)) rfl rfl ?_
  refine VW.if_eq (tgt := 10) (pc' := 9) d_Transaction_readKey_6 rfl rfl (fun c6 => ?_) (fun c6 => ?_)
  · try have e6 := bIe c6
    refine VW.aload_n (pc' := 11) d_Transaction_readKey_10 rfl rfl ?_
    refine VW.gI (ci := 8) (T := T8) (N := 19) (k := 14) (k' := 14) (pc' := 14) d_Transaction_readKey_11 rfl lk_Transaction_85 in8 rfl rfl rfl rfl (by first | exact hG.1 | exact hG.2.2.2.1.2 | exact hG.2.2.2.2.1.2 | exact x1 | exact x2) (by first | exact hG.2.2.2.1.1 | exact hG.2.2.2.2.1.1 | exact eb | exact j14 | rfl) ?_
    refine VW.aload_n (pc' := 15) d_Transaction_readKey_14 rfl rfl ?_
    refine VW.gP (ci := 8) (T := T8) (N := 19) (k := 16) (k' := 16) (pc' := 18) d_Transaction_readKey_15 rfl lk_Transaction_35 in8 rfl rfl rfl rfl (by first | exact hG.1 | exact hG.2.2.2.1.2 | exact hG.2.2.2.2.1.2 | exact x1 | exact x2) (by first | exact hG.2.2.2.1.1 | exact hG.2.2.2.2.1.1 | exact eb | exact j14 | rfl) ?_
    refine VW.alen (pc' := 19) d_Transaction_readKey_18 rfl (by first | exact hG.1 | exact hG.2.2.2.1.2 | exact hG.2.2.2.2.1.2 | exact x1 | exact x2) (by simp) (by omega) ?_
    refine VW.icmp_ne (tgt := 56) (pc' := 22) d_Transaction_readKey_19 rfl rfl (fun c19 => ?_) (fun c19 => ?_)
    · refine VW.pick [0, 1, 2] ?_
      first | (exfalso; omega) | exact e
    · refine VW.aload_n (pc' := 23) d_Transaction_readKey_22 rfl rfl ?_
      refine VW.aload_n (pc' := 24) d_Transaction_readKey_23 rfl rfl ?_
      refine VW.gP (ci := 8) (T := T8) (N := 19) (k := 15) (k' := 15) (pc' := 27) d_Transaction_readKey_24 rfl lk_Transaction_32 in8 rfl rfl rfl rfl (by first | exact hG.1 | exact hG.2.2.2.1.2 | exact hG.2.2.2.2.1.2 | exact x1 | exact x2) (by first | exact hG.2.2.2.1.1 | exact hG.2.2.2.2.1.1 | exact eb | exact j14 | rfl) ?_
      refine VW.iconst (pc' := 28) d_Transaction_readKey_27 rfl (by decide) ?_
      refine VW.aload_n (pc' := 29) d_Transaction_readKey_28 rfl rfl ?_
      refine VW.gI (ci := 8) (T := T8) (N := 19) (k := 14) (k' := 14) (pc' := 32) d_Transaction_readKey_29 rfl lk_Transaction_85 in8 rfl rfl rfl rfl (by first | exact hG.1 | exact hG.2.2.2.1.2 | exact hG.2.2.2.2.1.2 | exact x1 | exact x2) (by first | exact hG.2.2.2.1.1 | exact hG.2.2.2.2.1.1 | exact eb | exact j14 | rfl) ?_
      refine VW.imul (pc' := 33) d_Transaction_readKey_32 rfl (by omega) ?_
      refine VW.cS (pc' := 36) d_Transaction_readKey_33 rfl ms_java_util_Arrays_copyOf lk_Transaction_88 rfl rfl rfl (by exact (by omega : 0 + 1 ≤ 2)) (by exact (by omega : 0 + 2 * n ≤ 2 * (2 * n))) (sp_copyOf (N := 2 * n) hG.2.2.2.1.2 ho (by omega) (by omega) (by omega)) rfl rfl ?_
      refine VW.pP (ci := 8) (T := T8) (N := 19) (k := 15) (k' := 15) (ty := ty8) (pc' := 39) d_Transaction_readKey_36 rfl lk_Transaction_32 in8 tk8 nm8 rfl rfl rfl rfl rfl (by first | exact Or.inl ⟨_, rfl⟩ | exact Or.inr ⟨_, rfl⟩) (by first | exact hG.1 | exact hG.2.2.2.1.2 | exact hG.2.2.2.2.1.2 | exact x1 | exact x2) ?_
      refine VW.aload_n (pc' := 40) d_Transaction_readKey_39 rfl rfl ?_
      refine VW.aload_n (pc' := 41) d_Transaction_readKey_40 rfl rfl ?_
      refine VW.gP (ci := 8) (T := T8) (N := 19) (k := 16) (k' := 16) (pc' := 44) d_Transaction_readKey_41 rfl lk_Transaction_35 in8 rfl rfl rfl rfl (by first | exact hG.1 | exact hG.2.2.2.1.2 | exact hG.2.2.2.2.1.2 | exact x1 | exact x2) (by first | exact hG.2.2.2.1.1 | exact hG.2.2.2.2.1.1 | exact eb | exact j14 | rfl) ?_
      refine VW.iconst (pc' := 45) d_Transaction_readKey_44 rfl (by decide) ?_
      refine VW.aload_n (pc' := 46) d_Transaction_readKey_45 rfl rfl ?_
      refine VW.gI (ci := 8) (T := T8) (N := 19) (k := 14) (k' := 14) (pc' := 49) d_Transaction_readKey_46 rfl lk_Transaction_85 in8 rfl rfl rfl rfl (by first | exact hG.1 | exact hG.2.2.2.1.2 | exact hG.2.2.2.2.1.2 | exact x1 | exact x2) (by first | exact hG.2.2.2.1.1 | exact hG.2.2.2.2.1.1 | exact eb | exact j14 | rfl) ?_
      refine VW.imul (pc' := 50) d_Transaction_readKey_49 rfl (by omega) ?_
      refine VW.cS (pc' := 53) d_Transaction_readKey_50 rfl ms_java_util_Arrays_copyOf lk_Transaction_88 rfl rfl rfl (by exact (by omega : 0 + 1 + 1 ≤ 2)) (by exact (by omega : 0 + 2 * n + 2 * n ≤ 2 * (2 * n))) (sp_copyOf (N := 2 * n) b1 ho2' (by omega) (by omega) (by omega)) rfl rfl ?_
      refine VW.pP (ci := 8) (T := T8) (N := 19) (k := 16) (k' := 16) (ty := ty8) (pc' := 56) d_Transaction_readKey_53 rfl lk_Transaction_35 in8 tk8 nm8 rfl rfl rfl rfl rfl (by first | exact Or.inl ⟨_, rfl⟩ | exact Or.inr ⟨_, rfl⟩) (by first | exact hG.1 | exact hG.2.2.2.1.2 | exact hG.2.2.2.2.1.2 | exact x1 | exact x2) ?_
      refine VW.pick [0, 1, 2] ?_
      first | (exfalso; omega) | exact e
  · try have e6 := bIn c6
    exfalso; omega
end
