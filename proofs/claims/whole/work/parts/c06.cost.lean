/-! what an order costs, as the class counts it -/
section
variable {K : KT} {P : PT} {J I S : IT} {q : Nat} {x : Int}
/-- a join ties a leaf to those ahead of it -/
def cnX (S : IT) (t leaf j : Int) : Prop := (S 1392 (S 1395 j) = leaf ∧ t / 2 ^ (S 1392 (S 1396 j)).toNat % 2 = 1) ∨ (S 1392 (S 1396 j) = leaf ∧ t / 2 ^ (S 1392 (S 1395 j)).toNat % 2 = 1)
/-- a join's columns and their leaves are such -/
def CnOK (S : IT) (j : Int) : Prop := (0 ≤ S 1395 j ∧ S 1395 j < 10) ∧ (0 ≤ S 1396 j ∧ S 1396 j < 10) ∧ (0 ≤ S 1392 (S 1395 j) ∧ S 1392 (S 1395 j) < 3) ∧ (0 ≤ S 1392 (S 1396 j) ∧ S 1392 (S 1396 j) < 3) ∧ 0 ≤ S 1393 (S 1395 j) ∧ 0 ≤ S 1393 (S 1396 j)
theorem sp_Planner_connects {j t leaf : Int} (hC : ClW K P) (hj : 0 ≤ j ∧ j < 12) (h : CnOK I j) (ht : 0 ≤ t ∧ t < 16) : Sp m_Planner_connects false (rmv 0 0) (ex K P J I (.inl (some (vI (bI (cnX I t leaf j)))))) K P J I [vR (some 1384), vI j, vI leaf, vI t] := by
  obtain ⟨g1, g2, g3Z, g4, -⟩ := h
  have i1Z := ishr32 (a := t) (b := I 1392 (I 1395 j)) ⟨by omega, by omega⟩ g3Z.1 (by omega)
  have i2Z := ishr32 (a := t) (b := I 1392 (I 1396 j)) ⟨by omega, by omega⟩ g4.1 (by omega)
  have q1Z : 0 ≤ t / 2 ^ (I 1392 (I 1395 j)).toNat ∧ t / 2 ^ (I 1392 (I 1395 j)).toNat ≤ 2147483647 := ⟨divP ht.1, (divN (a := t) (m := (I 1392 (I 1395 j)).toNat) ⟨by omega, by omega⟩).2⟩
  have q2Z : 0 ≤ t / 2 ^ (I 1392 (I 1396 j)).toNat ∧ t / 2 ^ (I 1392 (I 1396 j)).toNat ≤ 2147483647 := ⟨divP ht.1, (divN (a := t) (m := (I 1392 (I 1396 j)).toNat) ⟨by omega, by omega⟩).2⟩
  have a1Z := iand1 q1Z.1 q1Z.2
  have a2 := iand1 q2Z.1 q2Z.2
  have y1 : I 1392 (I 1395 j) = leaf → t / 2 ^ (I 1392 (I 1396 j)).toNat % 2 ≠ 0 → cnX I t leaf j := fun z w => Or.inl ⟨z, by omega⟩
  have y2 : I 1392 (I 1396 j) = leaf → t / 2 ^ (I 1392 (I 1395 j)).toNat % 2 ≠ 0 → cnX I t leaf j := fun z w => Or.inr ⟨z, by omega⟩
  have n1Z : ¬ I 1392 (I 1395 j) = leaf → ¬ I 1392 (I 1396 j) = leaf → ¬ cnX I t leaf j := fun z w u => u.elim (fun v => z v.1) (fun v => w v.1)
  have n2Z : ¬ I 1392 (I 1395 j) = leaf → t / 2 ^ (I 1392 (I 1395 j)).toNat % 2 = 0 → ¬ cnX I t leaf j := fun z w u => u.elim (fun v => z v.1) (fun v => by have := v.2; omega)
  have n3Z : t / 2 ^ (I 1392 (I 1396 j)).toNat % 2 = 0 → ¬ I 1392 (I 1396 j) = leaf → ¬ cnX I t leaf j := fun z w u => u.elim (fun v => by have := v.2; omega) (fun v => w v.1)
  have n4Z : t / 2 ^ (I 1392 (I 1396 j)).toNat % 2 = 0 → t / 2 ^ (I 1392 (I 1395 j)).toNat % 2 = 0 → ¬ cnX I t leaf j := fun z w u => u.elim (fun v => by have := v.2; omega) (fun v => by have := v.2; omega)
  refine Sp.ofV (by decide) (Or.inr rfl) rfl ?_
  refine VW.aload_n (pc' := 1) d_Planner_connects_0 rfl rfl ?_
  refine VW.gP (ci := 3) (T := T3) (N := 14) (k := 7) (k' := 7) (pc' := 4) d_Planner_connects_1 rfl lk_Planner_31 in3 rfl rfl rfl rfl (by first | exact hC.k 39 rfl | exact hC.k 44 rfl | exact hC.k 45 rfl | exact hC.k 46 rfl | exact hC.k 47 rfl | exact hC.k 48 rfl | exact hC.k 49 rfl | exact hC.k 50 rfl) (by first | exact hC.p 46 rfl | exact hC.p 47 rfl | exact hC.p 48 rfl | exact hC.p 49 rfl | exact hC.p 50 rfl | exact hC.p 51 rfl | exact hC.p 52 rfl | rfl) ?_
  refine VW.aload_n (pc' := 5) d_Planner_connects_4 rfl rfl ?_
  refine VW.gP (ci := 3) (T := T3) (N := 14) (k := 10) (k' := 10) (pc' := 8) d_Planner_connects_5 rfl lk_Planner_37 in3 rfl rfl rfl rfl (by first | exact hC.k 39 rfl | exact hC.k 44 rfl | exact hC.k 45 rfl | exact hC.k 46 rfl | exact hC.k 47 rfl | exact hC.k 48 rfl | exact hC.k 49 rfl | exact hC.k 50 rfl) (by first | exact hC.p 46 rfl | exact hC.p 47 rfl | exact hC.p 48 rfl | exact hC.p 49 rfl | exact hC.p 50 rfl | exact hC.p 51 rfl | exact hC.p 52 rfl | rfl) ?_
  refine VW.iload_n (pc' := 9) d_Planner_connects_8 rfl rfl ?_
  refine VW.ild (pc' := 10) d_Planner_connects_9 rfl (by first | exact hC.k 39 rfl | exact hC.k 44 rfl | exact hC.k 45 rfl | exact hC.k 46 rfl | exact hC.k 47 rfl | exact hC.k 48 rfl | exact hC.k 49 rfl | exact hC.k 50 rfl) (by omega) (by omega) (by first | exact hC.p 46 rfl | exact hC.p 47 rfl | exact hC.p 48 rfl | exact hC.p 49 rfl | exact hC.p 50 rfl | exact hC.p 51 rfl | exact hC.p 52 rfl | rfl) ?_
  refine VW.ild (pc' := 11) d_Planner_connects_10 rfl (by first | exact hC.k 39 rfl | exact hC.k 44 rfl | exact hC.k 45 rfl | exact hC.k 46 rfl | exact hC.k 47 rfl | exact hC.k 48 rfl | exact hC.k 49 rfl | exact hC.k 50 rfl) (by omega) (by omega) (by first | exact hC.p 46 rfl | exact hC.p 47 rfl | exact hC.p 48 rfl | exact hC.p 49 rfl | exact hC.p 50 rfl | exact hC.p 51 rfl | exact hC.p 52 rfl | rfl) ?_
  refine VW.istore (pc' := 13) d_Planner_connects_11 rfl rfl ?_
  refine VW.aload_n (pc' := 14) d_Planner_connects_13 rfl rfl ?_
  refine VW.gP (ci := 3) (T := T3) (N := 14) (k := 7) (k' := 7) (pc' := 17) d_Planner_connects_14 rfl lk_Planner_31 in3 rfl rfl rfl rfl (by first | exact hC.k 39 rfl | exact hC.k 44 rfl | exact hC.k 45 rfl | exact hC.k 46 rfl | exact hC.k 47 rfl | exact hC.k 48 rfl | exact hC.k 49 rfl | exact hC.k 50 rfl) (by first | exact hC.p 46 rfl | exact hC.p 47 rfl | exact hC.p 48 rfl | exact hC.p 49 rfl | exact hC.p 50 rfl | exact hC.p 51 rfl | exact hC.p 52 rfl | rfl) ?_
  refine VW.aload_n (pc' := 18) d_Planner_connects_17 rfl rfl ?_
  refine VW.gP (ci := 3) (T := T3) (N := 14) (k := 11) (k' := 11) (pc' := 21) d_Planner_connects_18 rfl lk_Planner_40 in3 rfl rfl rfl rfl (by first | exact hC.k 39 rfl | exact hC.k 44 rfl | exact hC.k 45 rfl | exact hC.k 46 rfl | exact hC.k 47 rfl | exact hC.k 48 rfl | exact hC.k 49 rfl | exact hC.k 50 rfl) (by first | exact hC.p 46 rfl | exact hC.p 47 rfl | exact hC.p 48 rfl | exact hC.p 49 rfl | exact hC.p 50 rfl | exact hC.p 51 rfl | exact hC.p 52 rfl | rfl) ?_
  refine VW.iload_n (pc' := 22) d_Planner_connects_21 rfl rfl ?_
  refine VW.ild (pc' := 23) d_Planner_connects_22 rfl (by first | exact hC.k 39 rfl | exact hC.k 44 rfl | exact hC.k 45 rfl | exact hC.k 46 rfl | exact hC.k 47 rfl | exact hC.k 48 rfl | exact hC.k 49 rfl | exact hC.k 50 rfl) (by omega) (by omega) (by first | exact hC.p 46 rfl | exact hC.p 47 rfl | exact hC.p 48 rfl | exact hC.p 49 rfl | exact hC.p 50 rfl | exact hC.p 51 rfl | exact hC.p 52 rfl | rfl) ?_
  refine VW.ild (pc' := 24) d_Planner_connects_23 rfl (by first | exact hC.k 39 rfl | exact hC.k 44 rfl | exact hC.k 45 rfl | exact hC.k 46 rfl | exact hC.k 47 rfl | exact hC.k 48 rfl | exact hC.k 49 rfl | exact hC.k 50 rfl) (by omega) (by omega) (by first | exact hC.p 46 rfl | exact hC.p 47 rfl | exact hC.p 48 rfl | exact hC.p 49 rfl | exact hC.p 50 rfl | exact hC.p 51 rfl | exact hC.p 52 rfl | rfl) ?_
  refine VW.istore (pc' := 26) d_Planner_connects_24 rfl rfl ?_
  refine VW.iload (pc' := 28) d_Planner_connects_26 rfl rfl ?_
  refine VW.iload_n (pc' := 29) d_Planner_connects_28 rfl rfl ?_
  refine VW.icmp_ne (tgt := 41) (pc' := 32) d_Planner_connects_29 rfl rfl (fun c29 => ?_) (fun c29 => ?_)
  · refine VW.iload (pc' := 43) d_Planner_connects_41 rfl rfl ?_
    refine VW.iload_n (pc' := 44) d_Planner_connects_43 rfl rfl ?_
    refine VW.icmp_ne (tgt := 60) (pc' := 47) d_Planner_connects_44 rfl rfl (fun c44 => ?_) (fun c44 => ?_)
    · refine VW.iconst (pc' := 61) d_Planner_connects_60 rfl (by decide) ?_
      exact VW.iret d_Planner_connects_61 rfl rfl (Nat.zero_le _) (Nat.zero_le _) (by first | exact ex_v (bI1 (y1 c29 c38)) | exact ex_v (bI1 (y2 c44 c53)) | exact ex_v (bI0 (n1Z c29 c44)) | exact ex_v (bI0 (n2Z c29 c53)) | exact ex_v (bI0 (n3Z c38 c44)) | exact ex_v (bI0 (n4Z c38 c53)))
    · refine VW.iload_n (pc' := 48) d_Planner_connects_47 rfl rfl ?_
      refine VW.iload (pc' := 50) d_Planner_connects_48 rfl rfl ?_
      refine VW.ishr (pc' := 51) (z := t / 2 ^ (I 1392 (I 1395 j)).toNat) d_Planner_connects_50 rfl (⟨by omega, by omega⟩) (i1Z) ?_
      refine VW.iconst (pc' := 52) d_Planner_connects_51 rfl (by decide) ?_
      refine VW.iand (pc' := 53) (z := t / 2 ^ (I 1392 (I 1395 j)).toNat % 2) d_Planner_connects_52 rfl (⟨by omega, by omega⟩) (a1Z) ?_
      refine VW.if_eq (tgt := 60) (pc' := 56) d_Planner_connects_53 rfl rfl (fun c53 => ?_) (fun c53 => ?_)
      · refine VW.iconst (pc' := 61) d_Planner_connects_60 rfl (by decide) ?_
        exact VW.iret d_Planner_connects_61 rfl rfl (Nat.zero_le _) (Nat.zero_le _) (by first | exact ex_v (bI1 (y1 c29 c38)) | exact ex_v (bI1 (y2 c44 c53)) | exact ex_v (bI0 (n1Z c29 c44)) | exact ex_v (bI0 (n2Z c29 c53)) | exact ex_v (bI0 (n3Z c38 c44)) | exact ex_v (bI0 (n4Z c38 c53)))
      · refine VW.iconst (pc' := 57) d_Planner_connects_56 rfl (by decide) ?_
        refine VW.goto (pc' := 61) d_Planner_connects_57 rfl ?_
        exact VW.iret d_Planner_connects_61 rfl rfl (Nat.zero_le _) (Nat.zero_le _) (by first | exact ex_v (bI1 (y1 c29 c38)) | exact ex_v (bI1 (y2 c44 c53)) | exact ex_v (bI0 (n1Z c29 c44)) | exact ex_v (bI0 (n2Z c29 c53)) | exact ex_v (bI0 (n3Z c38 c44)) | exact ex_v (bI0 (n4Z c38 c53)))
  · refine VW.iload_n (pc' := 33) d_Planner_connects_32 rfl rfl ?_
    refine VW.iload (pc' := 35) d_Planner_connects_33 rfl rfl ?_
    refine VW.ishr (pc' := 36) (z := t / 2 ^ (I 1392 (I 1396 j)).toNat) d_Planner_connects_35 rfl (⟨by omega, by omega⟩) (i2Z) ?_
    refine VW.iconst (pc' := 37) d_Planner_connects_36 rfl (by decide) ?_
    refine VW.iand (pc' := 38) (z := t / 2 ^ (I 1392 (I 1396 j)).toNat % 2) d_Planner_connects_37 rfl (⟨by omega, by omega⟩) (a2) ?_
    refine VW.if_ne (tgt := 56) (pc' := 41) d_Planner_connects_38 rfl rfl (fun c38 => ?_) (fun c38 => ?_)
    · refine VW.iconst (pc' := 57) d_Planner_connects_56 rfl (by decide) ?_
      refine VW.goto (pc' := 61) d_Planner_connects_57 rfl ?_
      exact VW.iret d_Planner_connects_61 rfl rfl (Nat.zero_le _) (Nat.zero_le _) (by first | exact ex_v (bI1 (y1 c29 c38)) | exact ex_v (bI1 (y2 c44 c53)) | exact ex_v (bI0 (n1Z c29 c44)) | exact ex_v (bI0 (n2Z c29 c53)) | exact ex_v (bI0 (n3Z c38 c44)) | exact ex_v (bI0 (n4Z c38 c53)))
    · refine VW.iload (pc' := 43) d_Planner_connects_41 rfl rfl ?_
      refine VW.iload_n (pc' := 44) d_Planner_connects_43 rfl rfl ?_
      refine VW.icmp_ne (tgt := 60) (pc' := 47) d_Planner_connects_44 rfl rfl (fun c44 => ?_) (fun c44 => ?_)
      · refine VW.iconst (pc' := 61) d_Planner_connects_60 rfl (by decide) ?_
        exact VW.iret d_Planner_connects_61 rfl rfl (Nat.zero_le _) (Nat.zero_le _) (by first | exact ex_v (bI1 (y1 c29 c38)) | exact ex_v (bI1 (y2 c44 c53)) | exact ex_v (bI0 (n1Z c29 c44)) | exact ex_v (bI0 (n2Z c29 c53)) | exact ex_v (bI0 (n3Z c38 c44)) | exact ex_v (bI0 (n4Z c38 c53)))
      · refine VW.iload_n (pc' := 48) d_Planner_connects_47 rfl rfl ?_
        refine VW.iload (pc' := 50) d_Planner_connects_48 rfl rfl ?_
        refine VW.ishr (pc' := 51) (z := t / 2 ^ (I 1392 (I 1395 j)).toNat) d_Planner_connects_50 rfl (⟨by omega, by omega⟩) (i1Z) ?_
        refine VW.iconst (pc' := 52) d_Planner_connects_51 rfl (by decide) ?_
        refine VW.iand (pc' := 53) (z := t / 2 ^ (I 1392 (I 1395 j)).toNat % 2) d_Planner_connects_52 rfl (⟨by omega, by omega⟩) (a1Z) ?_
        refine VW.if_eq (tgt := 60) (pc' := 56) d_Planner_connects_53 rfl rfl (fun c53 => ?_) (fun c53 => ?_)
        · refine VW.iconst (pc' := 61) d_Planner_connects_60 rfl (by decide) ?_
          exact VW.iret d_Planner_connects_61 rfl rfl (Nat.zero_le _) (Nat.zero_le _) (by first | exact ex_v (bI1 (y1 c29 c38)) | exact ex_v (bI1 (y2 c44 c53)) | exact ex_v (bI0 (n1Z c29 c44)) | exact ex_v (bI0 (n2Z c29 c53)) | exact ex_v (bI0 (n3Z c38 c44)) | exact ex_v (bI0 (n4Z c38 c53)))
        · refine VW.iconst (pc' := 57) d_Planner_connects_56 rfl (by decide) ?_
          refine VW.goto (pc' := 61) d_Planner_connects_57 rfl ?_
          exact VW.iret d_Planner_connects_61 rfl rfl (Nat.zero_le _) (Nat.zero_le _) (by first | exact ex_v (bI1 (y1 c29 c38)) | exact ex_v (bI1 (y2 c44 c53)) | exact ex_v (bI0 (n1Z c29 c44)) | exact ex_v (bI0 (n2Z c29 c53)) | exact ex_v (bI0 (n3Z c38 c44)) | exact ex_v (bI0 (n4Z c38 c53)))
/-- the rows after the first m joins -/
noncomputable def ctJ (S : IT) (t leaf r : Int) : Nat → Int
  | 0 => r
  | m + 1 => if bI (cnX S t leaf m) = 1 then mDiv (ctJ S t leaf r m) (mMax (S 1393 (S 1395 m)) (S 1393 (S 1396 m))) else ctJ S t leaf r m
theorem ctJ_yes {m : Nat} {t leaf r : Int} (h : cnX S t leaf m) : mDiv (ctJ S t leaf r m) (mMax (S 1393 (S 1395 m)) (S 1393 (S 1396 m))) = ctJ S t leaf r (m + 1) := (if_pos (bI1 h)).symm
theorem ctJ_no {m : Nat} {t leaf r : Int} (h : ¬ cnX S t leaf m) : ctJ S t leaf r m = ctJ S t leaf r (m + 1) := (if_neg (by rw [bI0 h]; decide)).symm
theorem ctJ_rg {t leaf r B : Int} (hr : 0 ≤ r ∧ r ≤ B) (hB : 1 ≤ B) : ∀ m : Nat, (∀ j : Int, 0 ≤ j → j < m → CnOK S j) → 0 ≤ ctJ S t leaf r m ∧ ctJ S t leaf r m ≤ B := by
  intro m
  induction m with
  | zero => exact fun _ => hr
  | succ m ihZ =>
    intro hZ
    have iZ := ihZ (fun j a b => hZ j a (by omega))
    have g0 := hZ m (by omega) (by omega)
    by_cases gZ : cnX S t leaf m
    · rw [← ctJ_yes gZ]
      have := mDiv_rg (v := ctJ S t leaf r m) (b := mMax (S 1393 (S 1395 m)) (S 1393 (S 1396 m))) iZ.1 (mMax_rg g0.2.2.2.2.1 g0.2.2.2.2.2)
      omega
    · rw [← ctJ_no gZ]; exact iZ
/-- rows, cost and leaves taken after the first leaf and k more -/
noncomputable def ctC (S : IT) (m : Nat) : Nat → Int × Int × Int
  | 0 => (S 1390 (S 1397 0), 0, 2 ^ (S 1397 0).toNat)
  | k + 1 => (ctJ S (ctC S m k).2.2 (S 1397 (k + 1 : Nat)) ((ctC S m k).1 * S 1390 (S 1397 (k + 1 : Nat))) m, (ctC S m k).2.1 + ctJ S (ctC S m k).2.2 (S 1397 (k + 1 : Nat)) ((ctC S m k).1 * S 1390 (S 1397 (k + 1 : Nat))) m, orB (ctC S m k).2.2 (S 1397 (k + 1 : Nat)))
def CtOK (S : IT) (n m : Nat) : Prop := (S 1384 4 = n ∧ 1 ≤ n ∧ n ≤ 3) ∧ (S 1384 9 = m ∧ m ≤ 12) ∧ (∀ l, 0 ≤ l → l < 3 → 0 ≤ S 1390 l ∧ S 1390 l ≤ 10) ∧ (∀ j : Int, 0 ≤ j → j < m → CnOK S j)
def TrX (S : IT) (n : Nat) : Prop := ∀ k : Int, 0 ≤ k → k < n → 0 ≤ S 1397 k ∧ S 1397 k < 3
theorem ctC_rg {n m : Nat} (h : CtOK S n m) (ht : TrX S n) : ∀ k : Nat, k < n → (0 ≤ (ctC S m k).1 ∧ (ctC S m k).1 ≤ 10 ^ (k + 1)) ∧ (0 ≤ (ctC S m k).2.1 ∧ (ctC S m k).2.1 ≤ 2000 * k) ∧ (0 ≤ (ctC S m k).2.2 ∧ (ctC S m k).2.2 < 16) := by
  obtain ⟨⟨-, n1Z, n3Z⟩, -, hR, hX⟩ := h
  intro k
  induction k with
  | zero =>
    intro _
    have dZZ := ht 0 (by omega) (by omega)
    have aZ := hR _ dZZ.1 dZZ.2
    have bZ := pw4 (d := S 1397 0) (by omega)
    refine ⟨⟨aZ.1, aZ.2⟩, ⟨Int.le_refl _, by show (0 : Int) ≤ 2000 * 0; omega⟩, ?_⟩
    show 0 ≤ (2 : Int) ^ (S 1397 0).toNat ∧ (2 : Int) ^ (S 1397 0).toNat < 16
    omega
  | succ k ihZ =>
    intro hk
    have iZ := ihZ (by omega)
    have dZZ := ht (k + 1 : Nat) (by omega) (by omega)
    have aZ := hR _ dZZ.1 dZZ.2
    have hBZ : (1 : Int) ≤ 10 ^ (k + 1 + 1) ∧ (10 : Int) ^ (k + 1 + 1) ≤ 1000 ∧ (10 : Int) ^ (k + 1) * 10 = 10 ^ (k + 1 + 1) := by
      have : k = 0 ∨ k = 1 := by omega
      rcases this with zZ | zZ <;> subst zZ <;> decide
    have rZ : 0 ≤ (ctC S m k).1 * S 1390 (S 1397 (k + 1 : Nat)) ∧ (ctC S m k).1 * S 1390 (S 1397 (k + 1 : Nat)) ≤ 10 ^ (k + 1 + 1) := by
      rw [← hBZ.2.2]
      exact ⟨mulNN iZ.1.1 aZ.1, mulUp iZ.1.1 aZ.1 iZ.1.2 aZ.2⟩
    have cZ := ctJ_rg (S := S) (t := (ctC S m k).2.2) (leaf := S 1397 (k + 1 : Nat)) rZ hBZ.1 m hX
    refine ⟨cZ, ?_, orB_rg iZ.2.2 ⟨dZZ.1, by omega⟩⟩
    show 0 ≤ (ctC S m k).2.1 + ctJ S (ctC S m k).2.2 (S 1397 (k + 1 : Nat)) ((ctC S m k).1 * S 1390 (S 1397 (k + 1 : Nat))) m ∧ (ctC S m k).2.1 + ctJ S (ctC S m k).2.2 (S 1397 (k + 1 : Nat)) ((ctC S m k).1 * S 1390 (S 1397 (k + 1 : Nat))) m ≤ 2000 * ((k + 1 : Nat) : Int)
    omega
theorem sp_Planner_costOfTried {n m : Nat} (hC : ClW K P) (h : CtOK S n m) (ht : TrX S n) : Sp m_Planner_costOfTried false (rmv 2 90) (ex K P J S (.inl (some (vI (ctC S m (n - 1)).2.1)))) K P J S [vR (some 1384)] := by
  have crg := ctC_rg h ht
  obtain ⟨⟨h4, n1Z, n3Z⟩, ⟨h9, m12Z⟩, hR, hX⟩ := h
  refine Sp.ofV (by decide) (Or.inr rfl) rfl ?_
  have loopZ : ∀ (l kZ : Nat), kZ + 1 + l = n → VW m_Planner_costOfTried false (rmv 2 90) (ex K P J S (.inl (some (vI (ctC S m (n - 1)).2.1)))) K P J S 0 0 26 [(0, vR (some 1384)), (1, vI (ctC S m kZ).1), (2, vI (ctC S m kZ).2.2), (3, vI (ctC S m kZ).2.1), (4, vI ((kZ : Int) + 1))] [] := by
    intro l
    induction l with
    | zero =>
      intro kZ hk1
      have ek : n - 1 = kZ := by omega
      rw [ek]
      refine VW.iload (pc' := 28) d_Planner_costOfTried_26 rfl rfl ?_
      refine VW.aload_n (pc' := 29) d_Planner_costOfTried_28 rfl rfl ?_
      refine VW.gI (ci := 3) (T := T3) (N := 14) (k := 4) (k' := 4) (pc' := 32) d_Planner_costOfTried_29 rfl lk_Planner_127 in3 rfl rfl rfl rfl (by first | exact hC.k 39 rfl | exact hC.k 44 rfl | exact hC.k 45 rfl | exact hC.k 46 rfl | exact hC.k 47 rfl | exact hC.k 48 rfl | exact hC.k 49 rfl | exact hC.k 50 rfl) (by first | exact hC.p 46 rfl | exact hC.p 47 rfl | exact hC.p 48 rfl | exact hC.p 49 rfl | exact hC.p 50 rfl | exact hC.p 51 rfl | exact hC.p 52 rfl | exact h4 | exact h9 | rfl) ?_
      refine VW.icmp_ge (tgt := 133) (pc' := 35) d_Planner_costOfTried_32 rfl rfl (fun c32 => ?_) (fun c32 => ?_)
      case refine_2 => exact absurd c32 (by omega)
      refine VW.iload_n (pc' := 134) d_Planner_costOfTried_133 rfl rfl ?_
      exact VW.iret d_Planner_costOfTried_134 rfl rfl (Nat.zero_le _) (Nat.zero_le _) ex_rf
    | succ l ihZ =>
      intro kZ hk1
      have ih1 := ihZ (kZ + 1) (by omega)
      have ek : ((kZ + 1 : Nat) : Int) = (kZ : Int) + 1 := by omega
      have rg := crg kZ (by omega)
      have rg2 := crg (kZ + 1) (by omega)
      have dZZ := ht (kZ + 1 : Nat) (by omega) (by omega)
      have aZ := hR _ dZZ.1 dZZ.2
      rw [show ctC S m (kZ + 1) = (ctJ S (ctC S m kZ).2.2 (S 1397 (kZ + 1 : Nat)) ((ctC S m kZ).1 * S 1390 (S 1397 (kZ + 1 : Nat))) m, (ctC S m kZ).2.1 + ctJ S (ctC S m kZ).2.2 (S 1397 (kZ + 1 : Nat)) ((ctC S m kZ).1 * S 1390 (S 1397 (kZ + 1 : Nat))) m, orB (ctC S m kZ).2.2 (S 1397 (kZ + 1 : Nat))) from rfl] at ih1 rg2
      rw [ek] at ih1 rg2 dZZ aZ
      have p10 : (10 : Int) ^ (kZ + 1) ≤ 100 := by
        have : kZ = 0 ∨ kZ = 1 := by omega
        rcases this with zZ | zZ <;> subst zZ <;> decide
      have rr : 0 ≤ (ctC S m kZ).1 * S 1390 (S 1397 ((kZ : Int) + 1)) ∧ (ctC S m kZ).1 * S 1390 (S 1397 ((kZ : Int) + 1)) ≤ 100 * 10 := ⟨mulNN rg.1.1 aZ.1, mulUp rg.1.1 aZ.1 (by omega) aZ.2⟩
      clear ihZ crg
      generalize (ctC S m kZ).1 = r at *
      generalize (ctC S m kZ).2.1 = c at *
      generalize (ctC S m kZ).2.2 = t at *
      generalize hleaf : S 1397 ((kZ : Int) + 1) = leaf at *
      generalize hr2 : r * S 1390 leaf = r2 at *
      have joinsZ : ∀ (l2 jZ : Nat), jZ + l2 = m → VW m_Planner_costOfTried false (rmv 2 90) (ex K P J S (.inl (some (vI (ctC S m (n - 1)).2.1)))) K P J S 0 0 57 [(0, vR (some 1384)), (1, vI (ctJ S t leaf r2 jZ)), (2, vI t), (3, vI c), (4, vI ((kZ : Int) + 1)), (5, vI leaf), (6, vI (jZ : Int))] [] := by
        intro l2
        induction l2 with
        | zero =>
          intro jZ hj
          have ej : jZ = m := by omega
          rw [ej]
          have p2Z := pw4 (d := leaf) (by omega)
          have obZ : 0 ≤ orB t leaf ∧ orB t leaf < 16 := rg2.2.2
          have b3 := ishl1 (b := leaf) dZZ.1 (by omega)
          have b4 := ior64 (a := t) (k := leaf) rg.2.2.1 (by omega) dZZ.1 (by omega)
          have cr : 0 ≤ c + ctJ S t leaf r2 m ∧ c + ctJ S t leaf r2 m ≤ 2000 * ((kZ + 1 : Nat) : Int) := rg2.2.1
          refine VW.iload (pc' := 59) d_Planner_costOfTried_57 rfl rfl ?_
          refine VW.aload_n (pc' := 60) d_Planner_costOfTried_59 rfl rfl ?_
          refine VW.gI (ci := 3) (T := T3) (N := 14) (k := 9) (k' := 9) (pc' := 63) d_Planner_costOfTried_60 rfl lk_Planner_142 in3 rfl rfl rfl rfl (by first | exact hC.k 39 rfl | exact hC.k 44 rfl | exact hC.k 45 rfl | exact hC.k 46 rfl | exact hC.k 47 rfl | exact hC.k 48 rfl | exact hC.k 49 rfl | exact hC.k 50 rfl) (by first | exact hC.p 46 rfl | exact hC.p 47 rfl | exact hC.p 48 rfl | exact hC.p 49 rfl | exact hC.p 50 rfl | exact hC.p 51 rfl | exact hC.p 52 rfl | exact h4 | exact h9 | rfl) ?_
          refine VW.icmp_ge (tgt := 116) (pc' := 66) d_Planner_costOfTried_63 rfl rfl (fun c63 => ?_) (fun c63 => ?_)
          case refine_2 => exact absurd c63 (by omega)
          refine VW.iload_n (pc' := 117) d_Planner_costOfTried_116 rfl rfl ?_
          refine VW.iload_n (pc' := 118) d_Planner_costOfTried_117 rfl rfl ?_
          refine VW.iadd (pc' := 119) d_Planner_costOfTried_118 rfl (by omega) ?_
          refine VW.istore_n (pc' := 120) d_Planner_costOfTried_119 rfl rfl ?_
          refine VW.iload_n (pc' := 121) d_Planner_costOfTried_120 rfl rfl ?_
          refine VW.iconst (pc' := 122) d_Planner_costOfTried_121 rfl (by decide) ?_
          refine VW.iload (pc' := 124) d_Planner_costOfTried_122 rfl rfl ?_
          refine VW.ishl (pc' := 125) (z := 2 ^ leaf.toNat) d_Planner_costOfTried_124 rfl (⟨by omega, by omega⟩) (b3) ?_
          refine VW.ior (pc' := 126) (z := orB t leaf) d_Planner_costOfTried_125 rfl (⟨by omega, by omega⟩) (b4) ?_
          refine VW.istore_n (pc' := 127) d_Planner_costOfTried_126 rfl rfl ?_
          refine VW.iinc (pc' := 130) d_Planner_costOfTried_127 rfl rfl rfl (by omega) ?_
          refine VW.goto (pc' := 26) d_Planner_costOfTried_130 rfl ?_
          refine VW.pick [0, 1, 2, 3, 4] ?_
          exact ih1
        | succ l2 ih2 =>
          intro jZ hj
          have nx := ih2 (jZ + 1) (by omega)
          rw [show ((jZ + 1 : Nat) : Int) = (jZ : Int) + 1 by omega] at nx
          have vZ := hX jZ (by omega) (by omega)
          have cr := ctJ_rg (S := S) (t := t) (leaf := leaf) (r := r2) (B := 1000) (by omega) (by decide) jZ (fun zZ z0 z1 => hX zZ z0 (by omega))
          have con := sp_Planner_connects (K := K) (P := P) (J := J) (I := S) (j := (jZ : Int)) (t := t) (leaf := leaf) hC ⟨by omega, by omega⟩ vZ ⟨rg.2.2.1, rg.2.2.2⟩
          have goN : ¬ cnX S t leaf jZ → VW m_Planner_costOfTried false (rmv 2 90) (ex K P J S (.inl (some (vI (ctC S m (n - 1)).2.1)))) K P J S 0 0 57 [(0, vR (some 1384)), (1, vI (ctJ S t leaf r2 jZ)), (2, vI t), (3, vI c), (4, vI ((kZ : Int) + 1)), (5, vI leaf), (6, vI ((jZ : Int) + 1))] [] := fun zZ => by rw [ctJ_no zZ]; exact nx
          have goY : cnX S t leaf jZ → ∀ mx, mx = mMax (S 1393 (S 1395 jZ)) (S 1393 (S 1396 jZ)) → VW m_Planner_costOfTried false (rmv 2 90) (ex K P J S (.inl (some (vI (ctC S m (n - 1)).2.1)))) K P J S 0 0 57 [(0, vR (some 1384)), (1, vI (mDiv (ctJ S t leaf r2 jZ) mx)), (2, vI t), (3, vI c), (4, vI ((kZ : Int) + 1)), (5, vI leaf), (6, vI ((jZ : Int) + 1))] [] := fun zZ mx h => by rw [h, ctJ_yes zZ]; exact nx
          obtain ⟨v1Z, v2, v3, v4Z, v5, v6⟩ := vZ
          have mxe : ∀ aZ b : Int, (if true = true then (if aZ < b then b else aZ) else (if b < aZ then b else aZ)) = mMax aZ b := fun aZ b => by
            rw [if_pos rfl]
            unfold mMax
            split <;> split <;> omega
          have mg : ∀ mx : Int, mx = mMax (S 1393 (S 1395 jZ)) (S 1393 (S 1396 jZ)) → Sp m_Planner_divided false (rmv 1 30) (ex K P J S (.inl (some (vI (mDiv (ctJ S t leaf r2 jZ) mx))))) K P J S [vI (ctJ S t leaf r2 jZ), vI mx] := fun mx h => sp_Planner_divided ⟨cr.1, by omega⟩ (by rw [h]; exact mMax_rg v5 v6)
          clear ih2 nx hX hR ih1
          refine VW.iload (pc' := 59) d_Planner_costOfTried_57 rfl rfl ?_
          refine VW.aload_n (pc' := 60) d_Planner_costOfTried_59 rfl rfl ?_
          refine VW.gI (ci := 3) (T := T3) (N := 14) (k := 9) (k' := 9) (pc' := 63) d_Planner_costOfTried_60 rfl lk_Planner_142 in3 rfl rfl rfl rfl (by first | exact hC.k 39 rfl | exact hC.k 44 rfl | exact hC.k 45 rfl | exact hC.k 46 rfl | exact hC.k 47 rfl | exact hC.k 48 rfl | exact hC.k 49 rfl | exact hC.k 50 rfl) (by first | exact hC.p 46 rfl | exact hC.p 47 rfl | exact hC.p 48 rfl | exact hC.p 49 rfl | exact hC.p 50 rfl | exact hC.p 51 rfl | exact hC.p 52 rfl | exact h4 | exact h9 | rfl) ?_
          refine VW.icmp_ge (tgt := 116) (pc' := 66) d_Planner_costOfTried_63 rfl rfl (fun c63 => ?_) (fun c63 => ?_)
          case refine_1 => exact absurd c63 (by omega)
          refine VW.aload_n (pc' := 67) d_Planner_costOfTried_66 rfl rfl ?_
          refine VW.iload (pc' := 69) d_Planner_costOfTried_67 rfl rfl ?_
          refine VW.iload (pc' := 71) d_Planner_costOfTried_69 rfl rfl ?_
          refine VW.iload_n (pc' := 72) d_Planner_costOfTried_71 rfl rfl ?_
          refine VW.cV (ci := 3) (T := T3) (N := 14) (pc' := 75) d_Planner_costOfTried_72 rfl mv_Planner_connects lk_Planner_174 rfl (by first | exact hC.k 39 rfl | exact hC.k 44 rfl | exact hC.k 45 rfl | exact hC.k 46 rfl | exact hC.k 47 rfl | exact hC.k 48 rfl | exact hC.k 49 rfl | exact hC.k 50 rfl) rfl rfl rfl (Nat.le_refl _) (Nat.le_refl _) (con) rfl rfl ?_
          refine VW.if_eq (tgt := 110) (pc' := 78) d_Planner_costOfTried_75 rfl rfl (fun c75 => ?_) (fun c75 => ?_)
          · try have e75 := bIe c75
            refine VW.iinc (pc' := 113) d_Planner_costOfTried_110 rfl rfl rfl (by omega) ?_
            refine VW.goto (pc' := 57) d_Planner_costOfTried_113 rfl ?_
            refine VW.pick [0, 1, 2, 3, 4, 5, 6] ?_
            first | exact goN e75 | exact goY e75 _ (mxe _ _)
          · try have e75 := bIn c75
            refine VW.iload_n (pc' := 79) d_Planner_costOfTried_78 rfl rfl ?_
            refine VW.aload_n (pc' := 80) d_Planner_costOfTried_79 rfl rfl ?_
            refine VW.gP (ci := 3) (T := T3) (N := 14) (k := 8) (k' := 8) (pc' := 83) d_Planner_costOfTried_80 rfl lk_Planner_34 in3 rfl rfl rfl rfl (by first | exact hC.k 39 rfl | exact hC.k 44 rfl | exact hC.k 45 rfl | exact hC.k 46 rfl | exact hC.k 47 rfl | exact hC.k 48 rfl | exact hC.k 49 rfl | exact hC.k 50 rfl) (by first | exact hC.p 46 rfl | exact hC.p 47 rfl | exact hC.p 48 rfl | exact hC.p 49 rfl | exact hC.p 50 rfl | exact hC.p 51 rfl | exact hC.p 52 rfl | exact h4 | exact h9 | rfl) ?_
            refine VW.aload_n (pc' := 84) d_Planner_costOfTried_83 rfl rfl ?_
            refine VW.gP (ci := 3) (T := T3) (N := 14) (k := 10) (k' := 10) (pc' := 87) d_Planner_costOfTried_84 rfl lk_Planner_37 in3 rfl rfl rfl rfl (by first | exact hC.k 39 rfl | exact hC.k 44 rfl | exact hC.k 45 rfl | exact hC.k 46 rfl | exact hC.k 47 rfl | exact hC.k 48 rfl | exact hC.k 49 rfl | exact hC.k 50 rfl) (by first | exact hC.p 46 rfl | exact hC.p 47 rfl | exact hC.p 48 rfl | exact hC.p 49 rfl | exact hC.p 50 rfl | exact hC.p 51 rfl | exact hC.p 52 rfl | exact h4 | exact h9 | rfl) ?_
            refine VW.iload (pc' := 89) d_Planner_costOfTried_87 rfl rfl ?_
            refine VW.ild (pc' := 90) d_Planner_costOfTried_89 rfl (by first | exact hC.k 39 rfl | exact hC.k 44 rfl | exact hC.k 45 rfl | exact hC.k 46 rfl | exact hC.k 47 rfl | exact hC.k 48 rfl | exact hC.k 49 rfl | exact hC.k 50 rfl) (by omega) (by omega) (by first | exact hC.p 46 rfl | exact hC.p 47 rfl | exact hC.p 48 rfl | exact hC.p 49 rfl | exact hC.p 50 rfl | exact hC.p 51 rfl | exact hC.p 52 rfl | exact h4 | exact h9 | rfl) ?_
            refine VW.ild (pc' := 91) d_Planner_costOfTried_90 rfl (by first | exact hC.k 39 rfl | exact hC.k 44 rfl | exact hC.k 45 rfl | exact hC.k 46 rfl | exact hC.k 47 rfl | exact hC.k 48 rfl | exact hC.k 49 rfl | exact hC.k 50 rfl) (by omega) (by omega) (by first | exact hC.p 46 rfl | exact hC.p 47 rfl | exact hC.p 48 rfl | exact hC.p 49 rfl | exact hC.p 50 rfl | exact hC.p 51 rfl | exact hC.p 52 rfl | exact h4 | exact h9 | rfl) ?_
            refine VW.aload_n (pc' := 92) d_Planner_costOfTried_91 rfl rfl ?_
            refine VW.gP (ci := 3) (T := T3) (N := 14) (k := 8) (k' := 8) (pc' := 95) d_Planner_costOfTried_92 rfl lk_Planner_34 in3 rfl rfl rfl rfl (by first | exact hC.k 39 rfl | exact hC.k 44 rfl | exact hC.k 45 rfl | exact hC.k 46 rfl | exact hC.k 47 rfl | exact hC.k 48 rfl | exact hC.k 49 rfl | exact hC.k 50 rfl) (by first | exact hC.p 46 rfl | exact hC.p 47 rfl | exact hC.p 48 rfl | exact hC.p 49 rfl | exact hC.p 50 rfl | exact hC.p 51 rfl | exact hC.p 52 rfl | exact h4 | exact h9 | rfl) ?_
            refine VW.aload_n (pc' := 96) d_Planner_costOfTried_95 rfl rfl ?_
            refine VW.gP (ci := 3) (T := T3) (N := 14) (k := 11) (k' := 11) (pc' := 99) d_Planner_costOfTried_96 rfl lk_Planner_40 in3 rfl rfl rfl rfl (by first | exact hC.k 39 rfl | exact hC.k 44 rfl | exact hC.k 45 rfl | exact hC.k 46 rfl | exact hC.k 47 rfl | exact hC.k 48 rfl | exact hC.k 49 rfl | exact hC.k 50 rfl) (by first | exact hC.p 46 rfl | exact hC.p 47 rfl | exact hC.p 48 rfl | exact hC.p 49 rfl | exact hC.p 50 rfl | exact hC.p 51 rfl | exact hC.p 52 rfl | exact h4 | exact h9 | rfl) ?_
            refine VW.iload (pc' := 101) d_Planner_costOfTried_99 rfl rfl ?_
            refine VW.ild (pc' := 102) d_Planner_costOfTried_101 rfl (by first | exact hC.k 39 rfl | exact hC.k 44 rfl | exact hC.k 45 rfl | exact hC.k 46 rfl | exact hC.k 47 rfl | exact hC.k 48 rfl | exact hC.k 49 rfl | exact hC.k 50 rfl) (by omega) (by omega) (by first | exact hC.p 46 rfl | exact hC.p 47 rfl | exact hC.p 48 rfl | exact hC.p 49 rfl | exact hC.p 50 rfl | exact hC.p 51 rfl | exact hC.p 52 rfl | exact h4 | exact h9 | rfl) ?_
            refine VW.ild (pc' := 103) d_Planner_costOfTried_102 rfl (by first | exact hC.k 39 rfl | exact hC.k 44 rfl | exact hC.k 45 rfl | exact hC.k 46 rfl | exact hC.k 47 rfl | exact hC.k 48 rfl | exact hC.k 49 rfl | exact hC.k 50 rfl) (by omega) (by omega) (by first | exact hC.p 46 rfl | exact hC.p 47 rfl | exact hC.p 48 rfl | exact hC.p 49 rfl | exact hC.p 50 rfl | exact hC.p 51 rfl | exact hC.p 52 rfl | exact h4 | exact h9 | rfl) ?_
            refine VW.mm (pc' := 106) true rfl d_Planner_costOfTried_103 rfl lk_Planner_137 rfl rfl (Nat.zero_le _) (Nat.zero_le _) ?_
            refine VW.cS (pc' := 109) d_Planner_costOfTried_106 rfl ms_Planner_divided lk_Planner_134 rfl rfl rfl (Nat.le_refl _) (Nat.le_refl _) ((mg _ (mxe _ _))) rfl rfl ?_
            refine VW.istore_n (pc' := 110) d_Planner_costOfTried_109 rfl rfl ?_
            refine VW.iinc (pc' := 113) d_Planner_costOfTried_110 rfl rfl rfl (by omega) ?_
            refine VW.goto (pc' := 57) d_Planner_costOfTried_113 rfl ?_
            refine VW.pick [0, 1, 2, 3, 4, 5, 6] ?_
            first | exact goN e75 | exact goY e75 _ (mxe _ _)
      have j0 : VW m_Planner_costOfTried false (rmv 2 90) (ex K P J S (.inl (some (vI (ctC S m (n - 1)).2.1)))) K P J S 0 0 57 [(0, vR (some 1384)), (1, vI r2), (2, vI t), (3, vI c), (4, vI ((kZ : Int) + 1)), (5, vI leaf), (6, vI 0)] [] := joinsZ m 0 (Nat.zero_add _)
      clear joinsZ ih1 hX hR
      refine VW.iload (pc' := 28) d_Planner_costOfTried_26 rfl rfl ?_
      refine VW.aload_n (pc' := 29) d_Planner_costOfTried_28 rfl rfl ?_
      refine VW.gI (ci := 3) (T := T3) (N := 14) (k := 4) (k' := 4) (pc' := 32) d_Planner_costOfTried_29 rfl lk_Planner_127 in3 rfl rfl rfl rfl (by first | exact hC.k 39 rfl | exact hC.k 44 rfl | exact hC.k 45 rfl | exact hC.k 46 rfl | exact hC.k 47 rfl | exact hC.k 48 rfl | exact hC.k 49 rfl | exact hC.k 50 rfl) (by first | exact hC.p 46 rfl | exact hC.p 47 rfl | exact hC.p 48 rfl | exact hC.p 49 rfl | exact hC.p 50 rfl | exact hC.p 51 rfl | exact hC.p 52 rfl | exact h4 | exact h9 | exact hleaf | rfl) ?_
      refine VW.icmp_ge (tgt := 133) (pc' := 35) d_Planner_costOfTried_32 rfl rfl (fun c32 => ?_) (fun c32 => ?_)
      case refine_1 => exact absurd c32 (by omega)
      refine VW.aload_n (pc' := 36) d_Planner_costOfTried_35 rfl rfl ?_
      refine VW.gP (ci := 3) (T := T3) (N := 14) (k := 12) (k' := 12) (pc' := 39) d_Planner_costOfTried_36 rfl lk_Planner_43 in3 rfl rfl rfl rfl (by first | exact hC.k 39 rfl | exact hC.k 44 rfl | exact hC.k 45 rfl | exact hC.k 46 rfl | exact hC.k 47 rfl | exact hC.k 48 rfl | exact hC.k 49 rfl | exact hC.k 50 rfl) (by first | exact hC.p 46 rfl | exact hC.p 47 rfl | exact hC.p 48 rfl | exact hC.p 49 rfl | exact hC.p 50 rfl | exact hC.p 51 rfl | exact hC.p 52 rfl | exact h4 | exact h9 | exact hleaf | rfl) ?_
      refine VW.iload (pc' := 41) d_Planner_costOfTried_39 rfl rfl ?_
      refine VW.ild (pc' := 42) d_Planner_costOfTried_41 rfl (by first | exact hC.k 39 rfl | exact hC.k 44 rfl | exact hC.k 45 rfl | exact hC.k 46 rfl | exact hC.k 47 rfl | exact hC.k 48 rfl | exact hC.k 49 rfl | exact hC.k 50 rfl) (by omega) (by omega) (by first | exact hC.p 46 rfl | exact hC.p 47 rfl | exact hC.p 48 rfl | exact hC.p 49 rfl | exact hC.p 50 rfl | exact hC.p 51 rfl | exact hC.p 52 rfl | exact h4 | exact h9 | exact hleaf | rfl) ?_
      refine VW.istore (pc' := 44) d_Planner_costOfTried_42 rfl rfl ?_
      refine VW.iload_n (pc' := 45) d_Planner_costOfTried_44 rfl rfl ?_
      refine VW.aload_n (pc' := 46) d_Planner_costOfTried_45 rfl rfl ?_
      refine VW.gP (ci := 3) (T := T3) (N := 14) (k := 5) (k' := 5) (pc' := 49) d_Planner_costOfTried_46 rfl lk_Planner_25 in3 rfl rfl rfl rfl (by first | exact hC.k 39 rfl | exact hC.k 44 rfl | exact hC.k 45 rfl | exact hC.k 46 rfl | exact hC.k 47 rfl | exact hC.k 48 rfl | exact hC.k 49 rfl | exact hC.k 50 rfl) (by first | exact hC.p 46 rfl | exact hC.p 47 rfl | exact hC.p 48 rfl | exact hC.p 49 rfl | exact hC.p 50 rfl | exact hC.p 51 rfl | exact hC.p 52 rfl | exact h4 | exact h9 | exact hleaf | rfl) ?_
      refine VW.iload (pc' := 51) d_Planner_costOfTried_49 rfl rfl ?_
      refine VW.ild (pc' := 52) d_Planner_costOfTried_51 rfl (by first | exact hC.k 39 rfl | exact hC.k 44 rfl | exact hC.k 45 rfl | exact hC.k 46 rfl | exact hC.k 47 rfl | exact hC.k 48 rfl | exact hC.k 49 rfl | exact hC.k 50 rfl) (by omega) (by omega) (by first | exact hC.p 46 rfl | exact hC.p 47 rfl | exact hC.p 48 rfl | exact hC.p 49 rfl | exact hC.p 50 rfl | exact hC.p 51 rfl | exact hC.p 52 rfl | exact h4 | exact h9 | exact hleaf | rfl) ?_
      refine VW.imul (pc' := 53) d_Planner_costOfTried_52 rfl (by rw [hr2]; constructor <;> omega) ?_
      refine VW.istore_n (pc' := 54) d_Planner_costOfTried_53 rfl rfl ?_
      refine VW.iconst (pc' := 55) d_Planner_costOfTried_54 rfl (by decide) ?_
      refine VW.istore (pc' := 57) d_Planner_costOfTried_55 rfl rfl ?_
      refine VW.pick [0, 1, 2, 3, 4, 5, 6] ?_
      first | exact j0 | (rw [hr2]; exact j0)
  have d0Z := ht 0 (by omega) (by omega)
  have a0Z := hR _ d0Z.1 d0Z.2
  have l : VW m_Planner_costOfTried false (rmv 2 90) (ex K P J S (.inl (some (vI (ctC S m (n - 1)).2.1)))) K P J S 0 0 26 [(0, vR (some 1384)), (1, vI (S 1390 (S 1397 0))), (2, vI (2 ^ (S 1397 0).toNat)), (3, vI 0), (4, vI 1)] [] := loopZ (n - 1) 0 (by omega)
  have b3 := ishl1 (b := S 1397 0) d0Z.1 (by omega)
  have p2Z := pw4 (d := S 1397 0) ⟨d0Z.1, by omega⟩
  clear loopZ hX hR
  refine VW.aload_n (pc' := 1) d_Planner_costOfTried_0 rfl rfl ?_
  refine VW.gP (ci := 3) (T := T3) (N := 14) (k := 5) (k' := 5) (pc' := 4) d_Planner_costOfTried_1 rfl lk_Planner_25 in3 rfl rfl rfl rfl (by first | exact hC.k 39 rfl | exact hC.k 44 rfl | exact hC.k 45 rfl | exact hC.k 46 rfl | exact hC.k 47 rfl | exact hC.k 48 rfl | exact hC.k 49 rfl | exact hC.k 50 rfl) (by first | exact hC.p 46 rfl | exact hC.p 47 rfl | exact hC.p 48 rfl | exact hC.p 49 rfl | exact hC.p 50 rfl | exact hC.p 51 rfl | exact hC.p 52 rfl | rfl) ?_
  refine VW.aload_n (pc' := 5) d_Planner_costOfTried_4 rfl rfl ?_
  refine VW.gP (ci := 3) (T := T3) (N := 14) (k := 12) (k' := 12) (pc' := 8) d_Planner_costOfTried_5 rfl lk_Planner_43 in3 rfl rfl rfl rfl (by first | exact hC.k 39 rfl | exact hC.k 44 rfl | exact hC.k 45 rfl | exact hC.k 46 rfl | exact hC.k 47 rfl | exact hC.k 48 rfl | exact hC.k 49 rfl | exact hC.k 50 rfl) (by first | exact hC.p 46 rfl | exact hC.p 47 rfl | exact hC.p 48 rfl | exact hC.p 49 rfl | exact hC.p 50 rfl | exact hC.p 51 rfl | exact hC.p 52 rfl | rfl) ?_
  refine VW.iconst (pc' := 9) d_Planner_costOfTried_8 rfl (by decide) ?_
  refine VW.ild (pc' := 10) d_Planner_costOfTried_9 rfl (by first | exact hC.k 39 rfl | exact hC.k 44 rfl | exact hC.k 45 rfl | exact hC.k 46 rfl | exact hC.k 47 rfl | exact hC.k 48 rfl | exact hC.k 49 rfl | exact hC.k 50 rfl) (by omega) (by omega) (by first | exact hC.p 46 rfl | exact hC.p 47 rfl | exact hC.p 48 rfl | exact hC.p 49 rfl | exact hC.p 50 rfl | exact hC.p 51 rfl | exact hC.p 52 rfl | rfl) ?_
  refine VW.ild (pc' := 11) d_Planner_costOfTried_10 rfl (by first | exact hC.k 39 rfl | exact hC.k 44 rfl | exact hC.k 45 rfl | exact hC.k 46 rfl | exact hC.k 47 rfl | exact hC.k 48 rfl | exact hC.k 49 rfl | exact hC.k 50 rfl) (by omega) (by omega) (by first | exact hC.p 46 rfl | exact hC.p 47 rfl | exact hC.p 48 rfl | exact hC.p 49 rfl | exact hC.p 50 rfl | exact hC.p 51 rfl | exact hC.p 52 rfl | rfl) ?_
  refine VW.istore_n (pc' := 12) d_Planner_costOfTried_11 rfl rfl ?_
  refine VW.iconst (pc' := 13) d_Planner_costOfTried_12 rfl (by decide) ?_
  refine VW.aload_n (pc' := 14) d_Planner_costOfTried_13 rfl rfl ?_
  refine VW.gP (ci := 3) (T := T3) (N := 14) (k := 12) (k' := 12) (pc' := 17) d_Planner_costOfTried_14 rfl lk_Planner_43 in3 rfl rfl rfl rfl (by first | exact hC.k 39 rfl | exact hC.k 44 rfl | exact hC.k 45 rfl | exact hC.k 46 rfl | exact hC.k 47 rfl | exact hC.k 48 rfl | exact hC.k 49 rfl | exact hC.k 50 rfl) (by first | exact hC.p 46 rfl | exact hC.p 47 rfl | exact hC.p 48 rfl | exact hC.p 49 rfl | exact hC.p 50 rfl | exact hC.p 51 rfl | exact hC.p 52 rfl | rfl) ?_
  refine VW.iconst (pc' := 18) d_Planner_costOfTried_17 rfl (by decide) ?_
  refine VW.ild (pc' := 19) d_Planner_costOfTried_18 rfl (by first | exact hC.k 39 rfl | exact hC.k 44 rfl | exact hC.k 45 rfl | exact hC.k 46 rfl | exact hC.k 47 rfl | exact hC.k 48 rfl | exact hC.k 49 rfl | exact hC.k 50 rfl) (by omega) (by omega) (by first | exact hC.p 46 rfl | exact hC.p 47 rfl | exact hC.p 48 rfl | exact hC.p 49 rfl | exact hC.p 50 rfl | exact hC.p 51 rfl | exact hC.p 52 rfl | rfl) ?_
  refine VW.ishl (pc' := 20) (z := 2 ^ (S 1397 0).toNat) d_Planner_costOfTried_19 rfl (⟨by omega, by omega⟩) (b3) ?_
  refine VW.istore_n (pc' := 21) d_Planner_costOfTried_20 rfl rfl ?_
  refine VW.iconst (pc' := 22) d_Planner_costOfTried_21 rfl (by decide) ?_
  refine VW.istore_n (pc' := 23) d_Planner_costOfTried_22 rfl rfl ?_
  refine VW.iconst (pc' := 24) d_Planner_costOfTried_23 rfl (by decide) ?_
  refine VW.istore (pc' := 26) d_Planner_costOfTried_24 rfl rfl ?_
  refine VW.pick [0, 1, 2, 3, 4] ?_
  exact l
end
