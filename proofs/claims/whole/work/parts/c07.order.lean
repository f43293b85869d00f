/-! the order that is chosen, as the class chooses it -/
section
variable {K : KT} {P : PT} {J I T : IT} {q n m : Nat} {x c : Int}
/-- what is left of a code; the digits written down; the leaves seen -/
def spR (n c : Int) : Nat → Int
  | 0 => c
  | j + 1 => (spR n c j).tdiv n
def spG (n c : Int) (j : Nat) : Int := (spR n c j).tmod n
def spT (T : IT) (n c : Int) : Nat → IT
  | 0 => T
  | j + 1 => up2 (spT T n c j) 1397 (n - 1 - j) (spG n c j)
def spS (n c : Int) : Nat → Int
  | 0 => 0
  | j + 1 => orB (spS n c j) (spG n c j)
theorem spR_rg {n c : Int} (h : 0 ≤ c) (hn : 1 ≤ n) : ∀ j, 0 ≤ spR n c j ∧ spR n c j ≤ c := by
  intro j
  induction j with
  | zero => exact ⟨h, Int.le_refl _⟩
  | succ j ihZ =>
    have eZ : spR n c (j + 1) = (spR n c j).tdiv n := rfl
    rw [eZ, Int.tdiv_eq_ediv_of_nonneg ihZ.1]
    exact ⟨Int.ediv_nonneg ihZ.1 (by omega), Int.le_trans (Int.ediv_le_self _ ihZ.1) ihZ.2⟩
theorem spG_rg {n c : Int} (h : 0 ≤ c) (hn : 1 ≤ n) (j : Nat) : 0 ≤ spG n c j ∧ spG n c j < n := by
  unfold spG
  rw [Int.tmod_eq_emod_of_nonneg (spR_rg h hn j).1]
  exact ⟨Int.emod_nonneg _ (by omega), Int.emod_lt_of_pos _ (by omega)⟩
theorem spS_rg {n c : Int} (h : 0 ≤ c) (hn : 1 ≤ n ∧ n ≤ 3) : ∀ j, 0 ≤ spS n c j ∧ spS n c j < 16 := by
  intro j
  induction j with
  | zero => exact ⟨Int.le_refl _, by show (0 : Int) < 16; decide⟩
  | succ j ihZ =>
    have gZ := spG_rg h hn.1 j
    exact orB_rg ihZ ⟨gZ.1, by omega⟩
theorem spT_o {n c : Int} {o : Nat} (h : o ≠ 1397) : ∀ j, spT T n c j o = T o := by
  intro j
  induction j with
  | zero => rfl
  | succ j ihZ => exact funext (fun z => (up2_o _ _ _ _ h).trans (congrFun ihZ z))
/-- the digits stand where they belong -/
theorem spT_at {n c : Int} : ∀ (j : Nat) (k : Int), n - j ≤ k → k < n → spT T n c j 1397 k = spG n c (n - 1 - k).toNat := by
  intro j
  induction j with
  | zero => intro k h1 h2; omega
  | succ j ihZ =>
    intro k h1 h2
    have eZ : spT T n c (j + 1) = up2 (spT T n c j) 1397 (n - 1 - j) (spG n c j) := rfl
    rw [eZ, up2_if]
    by_cases yZ : k = n - 1 - j
    · rw [if_pos yZ, yZ]
      congr 1
      omega
    · rw [if_neg yZ]
      exact ihZ k (by omega) h2
theorem spT_x {n : Nat} (h : 0 ≤ c) (hn : 1 ≤ n ∧ n ≤ 3) : TrX (spT T n c n) n := by
  intro kZ h0 h1
  rw [spT_at n kZ (by omega) h1]
  have := spG_rg (n := (n : Int)) h (by omega) ((n : Int) - 1 - kZ).toNat
  omega
def spW (n c : Int) : Prop := ((wk (spS n c n.toNat) 10 : Nat) : Int) = n
theorem sp_Planner_spellsOrder (hC : ClW K P) (h4 : T 1384 4 = n) (hn : 1 ≤ n ∧ n ≤ 3) (hc : 0 ≤ c ∧ c ≤ 1000) : Sp m_Planner_spellsOrder false (rmv 1 40) (ex K P J (spT T n c n) (.inl (some (vI (bI (spW n c)))))) K P J T [vR (some 1384), vI c] := by
  refine Sp.ofV (by decide) (Or.inr rfl) rfl ?_
  have loopZ : ∀ (l jZ : Nat), jZ + l = n → VW m_Planner_spellsOrder false (rmv 1 40) (ex K P J (spT T n c n) (.inl (some (vI (bI (spW n c)))))) K P J (spT T n c jZ) 0 0 12 [(0, vR (some 1384)), (2, vI (spR n c jZ)), (3, vI (spS n c jZ)), (4, vI ((n : Int) - 1 - jZ))] [] := by
    intro l
    induction l with
    | zero =>
      intro jZ hj
      have ej : jZ = n := by omega
      subst ej
      have sr := spS_rg (n := (jZ : Int)) hc.1 (by omega) jZ
      have spB := sp_bitCount (K := K) (P := P) (J := J) (I := spT T jZ c jZ) (s := (spS jZ c jZ).toNat) (by omega)
      rw [show (((spS jZ c jZ).toNat : Nat) : Int) = spS jZ c jZ by omega] at spB
      have l4 : spT T jZ c jZ 1384 4 = jZ := by rw [spT_o (by decide)]; exact h4
      have f1Z : ((wk (spS jZ c jZ) 10 : Nat) : Int) = jZ → spW jZ c := fun z => by
        unfold spW; rw [Int.toNat_natCast]; exact z
      have f0Z : ((wk (spS jZ c jZ) 10 : Nat) : Int) ≠ jZ → ¬ spW jZ c := fun z => by
        unfold spW; rw [Int.toNat_natCast]; exact z
      refine VW.iload (pc' := 14) d_Planner_spellsOrder_12 rfl rfl ?_
      refine VW.if_lt (tgt := 55) (pc' := 17) d_Planner_spellsOrder_14 rfl rfl (fun c14 => ?_) (fun c14 => ?_)
      case refine_2 => exact absurd c14 (by omega)
      refine VW.iload_n (pc' := 56) d_Planner_spellsOrder_55 rfl rfl ?_
      refine VW.cS (pc' := 59) d_Planner_spellsOrder_56 rfl ms_java_lang_Integer_bitCount lk_Planner_169 rfl rfl rfl (Nat.le_refl _) (Nat.le_refl _) (spB) rfl rfl ?_
      refine VW.aload_n (pc' := 60) d_Planner_spellsOrder_59 rfl rfl ?_
      refine VW.gI (ci := 3) (T := T3) (N := 14) (k := 4) (k' := 4) (pc' := 63) d_Planner_spellsOrder_60 rfl lk_Planner_127 in3 rfl rfl rfl rfl (by first | exact hC.k 39 rfl | exact hC.k 50 rfl) (by first | exact hC.p 52 rfl | exact l4 | rfl) ?_
      refine VW.icmp_ne (tgt := 70) (pc' := 66) d_Planner_spellsOrder_63 rfl rfl (fun c63 => ?_) (fun c63 => ?_)
      · refine VW.iconst (pc' := 71) d_Planner_spellsOrder_70 rfl (by decide) ?_
        exact VW.iret d_Planner_spellsOrder_71 rfl rfl (Nat.zero_le _) (Nat.zero_le _) (by first | exact ex_v (bI1 (f1Z c63)) | exact ex_v (bI0 (f0Z c63)))
      · refine VW.iconst (pc' := 67) d_Planner_spellsOrder_66 rfl (by decide) ?_
        refine VW.goto (pc' := 71) d_Planner_spellsOrder_67 rfl ?_
        exact VW.iret d_Planner_spellsOrder_71 rfl rfl (Nat.zero_le _) (Nat.zero_le _) (by first | exact ex_v (bI1 (f1Z c63)) | exact ex_v (bI0 (f0Z c63)))
    | succ l ihZ =>
      intro jZ hj
      have i1Z := ihZ (jZ + 1) (by omega)
      rw [show (n : Int) - 1 - ((jZ + 1 : Nat) : Int) = (n : Int) - 1 - jZ + -1 by omega] at i1Z
      have d1Z : spT T n c (jZ + 1) = up2 (spT T n c jZ) 1397 ((n : Int) - 1 - jZ) ((spR n c jZ).tmod n) := rfl
      have d2Z : spR n c (jZ + 1) = (spR n c jZ).tdiv n := rfl
      have d3Z : spS n c (jZ + 1) = orB (spS n c jZ) ((spR n c jZ).tmod n) := rfl
      have r1Z := spR_rg hc.1 (n := (n : Int)) (by omega) jZ
      have r2 := spR_rg hc.1 (n := (n : Int)) (by omega) (jZ + 1)
      have r3 : 0 ≤ (spR n c jZ).tmod n ∧ (spR n c jZ).tmod n < n := spG_rg hc.1 (n := (n : Int)) (by omega) jZ
      have r4 := spS_rg (n := (n : Int)) hc.1 (by omega) jZ
      have r5Z := spS_rg (n := (n : Int)) hc.1 (by omega) (jZ + 1)
      rw [d1Z, d2Z, d3Z] at i1Z
      rw [d2Z] at r2
      rw [d3Z] at r5Z
      have l4 : spT T n c jZ 1384 4 = n := by rw [spT_o (by decide)]; exact h4
      have l5 : ∀ z w, up2 (spT T n c jZ) 1397 z w 1384 4 = n := fun z w => (up2_o _ _ _ _ (by decide)).trans l4
      clear ihZ d1Z d2Z d3Z
      generalize spT T n c jZ = U at *
      generalize spR n c jZ = r at *
      generalize spS n c jZ = s at *
      have b3 := ishl1 (b := r.tmod n) r3.1 (by omega)
      have b4 := ior64 (a := s) (k := r.tmod n) r4.1 (by omega) r3.1 (by omega)
      have p2Z := pw4 (d := r.tmod n) ⟨r3.1, by omega⟩
      refine VW.iload (pc' := 14) d_Planner_spellsOrder_12 rfl rfl ?_
      refine VW.if_lt (tgt := 55) (pc' := 17) d_Planner_spellsOrder_14 rfl rfl (fun c14 => ?_) (fun c14 => ?_)
      case refine_1 => exact absurd c14 (by omega)
      refine VW.aload_n (pc' := 18) d_Planner_spellsOrder_17 rfl rfl ?_
      refine VW.gP (ci := 3) (T := T3) (N := 14) (k := 12) (k' := 12) (pc' := 21) d_Planner_spellsOrder_18 rfl lk_Planner_43 in3 rfl rfl rfl rfl (by first | exact hC.k 39 rfl | exact hC.k 50 rfl) (by first | exact hC.p 52 rfl | exact l4 | exact l5 _ _ | exact up2_eq _ _ _ _ | rfl) ?_
      refine VW.iload (pc' := 23) d_Planner_spellsOrder_21 rfl rfl ?_
      refine VW.iload_n (pc' := 24) d_Planner_spellsOrder_23 rfl rfl ?_
      refine VW.aload_n (pc' := 25) d_Planner_spellsOrder_24 rfl rfl ?_
      refine VW.gI (ci := 3) (T := T3) (N := 14) (k := 4) (k' := 4) (pc' := 28) d_Planner_spellsOrder_25 rfl lk_Planner_127 in3 rfl rfl rfl rfl (by first | exact hC.k 39 rfl | exact hC.k 50 rfl) (by first | exact hC.p 52 rfl | exact l4 | exact l5 _ _ | exact up2_eq _ _ _ _ | rfl) ?_
      refine VW.irem (pc' := 29) d_Planner_spellsOrder_28 rfl (by omega) (by omega) ?_
      refine VW.iast (pc' := 30) d_Planner_spellsOrder_29 rfl (by first | exact hC.k 39 rfl | exact hC.k 50 rfl) (by omega) (by omega) ?_
      refine VW.iload_n (pc' := 31) d_Planner_spellsOrder_30 rfl rfl ?_
      refine VW.aload_n (pc' := 32) d_Planner_spellsOrder_31 rfl rfl ?_
      refine VW.gI (ci := 3) (T := T3) (N := 14) (k := 4) (k' := 4) (pc' := 35) d_Planner_spellsOrder_32 rfl lk_Planner_127 in3 rfl rfl rfl rfl (by first | exact hC.k 39 rfl | exact hC.k 50 rfl) (by first | exact hC.p 52 rfl | exact l4 | exact l5 _ _ | exact up2_eq _ _ _ _ | rfl) ?_
      refine VW.idiv (pc' := 36) d_Planner_spellsOrder_35 rfl (by omega) (by omega) ?_
      refine VW.istore_n (pc' := 37) d_Planner_spellsOrder_36 rfl rfl ?_
      refine VW.iload_n (pc' := 38) d_Planner_spellsOrder_37 rfl rfl ?_
      refine VW.iconst (pc' := 39) d_Planner_spellsOrder_38 rfl (by decide) ?_
      refine VW.aload_n (pc' := 40) d_Planner_spellsOrder_39 rfl rfl ?_
      refine VW.gP (ci := 3) (T := T3) (N := 14) (k := 12) (k' := 12) (pc' := 43) d_Planner_spellsOrder_40 rfl lk_Planner_43 in3 rfl rfl rfl rfl (by first | exact hC.k 39 rfl | exact hC.k 50 rfl) (by first | exact hC.p 52 rfl | exact l4 | exact l5 _ _ | exact up2_eq _ _ _ _ | rfl) ?_
      refine VW.iload (pc' := 45) d_Planner_spellsOrder_43 rfl rfl ?_
      refine VW.ild (pc' := 46) d_Planner_spellsOrder_45 rfl (by first | exact hC.k 39 rfl | exact hC.k 50 rfl) (by omega) (by omega) (by first | exact hC.p 52 rfl | exact l4 | exact l5 _ _ | exact up2_eq _ _ _ _ | rfl) ?_
      refine VW.ishl (pc' := 47) (z := 2 ^ (r.tmod n).toNat) d_Planner_spellsOrder_46 rfl (⟨by omega, by omega⟩) (b3) ?_
      refine VW.ior (pc' := 48) (z := orB s (r.tmod n)) d_Planner_spellsOrder_47 rfl (⟨by omega, by omega⟩) (b4) ?_
      refine VW.istore_n (pc' := 49) d_Planner_spellsOrder_48 rfl rfl ?_
      refine VW.iinc (pc' := 52) d_Planner_spellsOrder_49 rfl rfl rfl (by omega) ?_
      refine VW.goto (pc' := 12) d_Planner_spellsOrder_52 rfl ?_
      refine VW.pick [0, 2, 3, 4] ?_
      exact i1Z
  have l : VW m_Planner_spellsOrder false (rmv 1 40) (ex K P J (spT T n c n) (.inl (some (vI (bI (spW n c)))))) K P J T 0 0 12 [(0, vR (some 1384)), (2, vI c), (3, vI 0), (4, vI ((n : Int) - 1))] [] := by
    have := loopZ n 0 (Nat.zero_add _)
    rw [show (n : Int) - 1 - ((0 : Nat) : Int) = (n : Int) - 1 by omega] at this
    exact this
  clear loopZ
  refine VW.iload_n (pc' := 1) d_Planner_spellsOrder_0 rfl rfl ?_
  refine VW.istore_n (pc' := 2) d_Planner_spellsOrder_1 rfl rfl ?_
  refine VW.iconst (pc' := 3) d_Planner_spellsOrder_2 rfl (by decide) ?_
  refine VW.istore_n (pc' := 4) d_Planner_spellsOrder_3 rfl rfl ?_
  refine VW.aload_n (pc' := 5) d_Planner_spellsOrder_4 rfl rfl ?_
  refine VW.gI (ci := 3) (T := T3) (N := 14) (k := 4) (k' := 4) (pc' := 8) d_Planner_spellsOrder_5 rfl lk_Planner_127 in3 rfl rfl rfl rfl (by first | exact hC.k 39 rfl | exact hC.k 50 rfl) (by first | exact hC.p 52 rfl | exact h4 | rfl) ?_
  refine VW.iconst (pc' := 9) d_Planner_spellsOrder_8 rfl (by decide) ?_
  refine VW.isub (pc' := 10) d_Planner_spellsOrder_9 rfl (by omega) ?_
  refine VW.istore (pc' := 12) d_Planner_spellsOrder_10 rfl rfl ?_
  refine VW.pick [0, 2, 3, 4] ?_
  exact l
/-- a code is tried -/
noncomputable def chC (T : IT) (n m : Nat) : Int := (ctC T m (n - 1)).2.1
def chB (U : IT) (q n m : Nat) (c : Int) : Prop := spW n c ∧ (U q 9 = 0 ∨ chC U n m < U q 10)
noncomputable def chP (U : IT) (q n m : Nat) : IT := cpyI (up2 (up2 (up2 U q 9 1) q 10 (chC U n m)) q 11 n) 1397 0 (q + 13) 0 n
noncomputable def chO (T : IT) (q n m : Nat) (c : Int) : IT := if bI (chB (spT T n c n) q n m c) = 1 then chP (spT T n c n) q n m else spT T n c n
theorem chO_yes (h : chB (spT T n c n) q n m c) : chO T q n m c = chP (spT T n c n) q n m := if_pos (bI1 h)
theorem chO_no (h : ¬ chB (spT T n c n) q n m c) : chO T q n m c = spT T n c n := if_neg (by rw [bI0 h]; decide)
theorem chP_o {U : IT} {o : Nat} (h : o ≠ q) (h2 : o ≠ q + 13) : chP U q n m o = U o := by
  funext z
  unfold chP cpyI
  rw [if_neg (fun y => h2 y.1), up2_o _ _ _ _ h, up2_o _ _ _ _ h, up2_o _ _ _ _ h]
theorem chO_o {o : Nat} (h : o ≠ q) (h2 : o ≠ q + 13) (h3 : o ≠ 1397) : chO T q n m c o = T o := by
  by_cases yZ : chB (spT T n c n) q n m c
  · rw [chO_yes yZ, chP_o h h2, spT_o h3]
  · rw [chO_no yZ, spT_o h3]
noncomputable def chZ (T : IT) (q n m : Nat) : Nat → IT
  | 0 => up2 T q 9 0
  | c + 1 => chO (chZ T q n m c) q n m c
theorem chZ_o {o : Nat} (h : o ≠ q) (h2 : o ≠ q + 13) (h3 : o ≠ 1397) : ∀ c, chZ T q n m c o = T o := by
  intro c
  induction c with
  | zero => exact funext (fun z => up2_o _ _ _ _ h)
  | succ c ihZ => exact (chO_o h h2 h3).trans ihZ
theorem CnOK.of {S S' : IT} {j : Int} (h : CnOK S j) (e : ∀ o, o = 1392 ∨ o = 1393 ∨ o = 1395 ∨ o = 1396 → S' o = S o) : CnOK S' j := by
  unfold CnOK
  rw [e 1392 (by decide), e 1393 (by decide), e 1395 (by decide), e 1396 (by decide)]
  exact h
theorem CtOK.of {S S' : IT} (h : CtOK S n m) (e0 : S' 1384 = S 1384) (e : ∀ o, o = 1390 ∨ o = 1392 ∨ o = 1393 ∨ o = 1395 ∨ o = 1396 → S' o = S o) : CtOK S' n m := by
  obtain ⟨aZ, bZ, rZ, cc⟩ := h
  exact ⟨by rw [e0]; exact aZ, by rw [e0]; exact bZ, by rw [e 1390 (by decide)]; exact rZ, fun j j0 j1 => (cc j j0 j1).of (fun o ho => e o (Or.inr ho))⟩
theorem sp_Planner_chooseOrder (hC : ClW K P) (hQ : QuW K P q) (hq : 10000 ≤ q) (hk : CtOK I n m) : Sp m_Planner_chooseOrder false (rmv 3 180) (ex K P J (chZ I q n m (n ^ n)) (.inl none)) K P J I [vR (some 1384), vR (some q)] := by
  have h4 := hk.1
  have nn : n ^ n ≤ 27 := by
    have : n = 1 ∨ n = 2 ∨ n = 3 := by omega
    rcases this with zZ | zZ | zZ <;> subst zZ <;> decide
  refine Sp.ofV (by decide) (Or.inr rfl) rfl ?_
  have loopZ : ∀ (l c : Nat), c + l = n ^ n → VW m_Planner_chooseOrder false (rmv 3 180) (ex K P J (chZ I q n m (n ^ n)) (.inl none)) K P J (chZ I q n m c) 0 0 32 [(0, vR (some 1384)), (1, vR (some q)), (2, vI ((n ^ n : Nat) : Int)), (3, vI (c : Int))] [] := by
    intro l
    induction l with
    | zero =>
      intro c hcZ
      have ec : c = n ^ n := by omega
      subst ec
      refine VW.iload_n (pc' := 33) d_Planner_chooseOrder_32 rfl rfl ?_
      refine VW.iload_n (pc' := 34) d_Planner_chooseOrder_33 rfl rfl ?_
      refine VW.icmp_ge (tgt := 112) (pc' := 37) d_Planner_chooseOrder_34 rfl rfl (fun c34 => ?_) (fun c34 => ?_)
      case refine_2 => exact absurd c34 (by omega)
      exact VW.vret d_Planner_chooseOrder_112 rfl (Nat.zero_le _) (Nat.zero_le _) ex_rf
    | succ l ihZ =>
      intro c hcZ
      have i1Z := ihZ (c + 1) (by omega)
      rw [show ((c + 1 : Nat) : Int) = (c : Int) + 1 by omega] at i1Z
      have kT : CtOK (chZ I q n m c) n m := hk.of (chZ_o (by omega) (by omega) (by decide) c) (fun o ho => chZ_o (by omega) (by omega) (by omega) c)
      have d1Z : chZ I q n m (c + 1) = chO (chZ I q n m c) q n m c := rfl
      rw [d1Z] at i1Z
      clear ihZ d1Z
      generalize chZ I q n m c = T at *
      have sp1 := sp_Planner_spellsOrder (K := K) (P := P) (J := J) (T := T) (n := n) (c := (c : Int)) hC kT.1.1 (by omega) (by omega)
      have kUZ : CtOK (spT T n c n) n m := kT.of (spT_o (by decide) n) (fun o ho => spT_o (by omega) n)
      have xU : TrX (spT T n c n) n := spT_x (c := (c : Int)) (by omega) (by omega)
      have skipZ : ¬ chB (spT T n c n) q n m c → VW m_Planner_chooseOrder false (rmv 3 180) (ex K P J (chZ I q n m (n ^ n)) (.inl none)) K P J (spT T n c n) 0 0 32 [(0, vR (some 1384)), (1, vR (some q)), (2, vI ((n ^ n : Nat) : Int)), (3, vI ((c : Int) + 1))] [] := fun yZ => by
        have gZ := i1Z
        rw [chO_no yZ] at gZ
        exact gZ
      have takeZ : chB (spT T n c n) q n m c → VW m_Planner_chooseOrder false (rmv 3 180) (ex K P J (chZ I q n m (n ^ n)) (.inl none)) K P J (chP (spT T n c n) q n m) 0 0 32 [(0, vR (some 1384)), (1, vR (some q)), (2, vI ((n ^ n : Nat) : Int)), (3, vI ((c : Int) + 1))] [] := fun yZ => by
        have gZ := i1Z
        rw [chO_yes yZ] at gZ
        exact gZ
      clear i1Z kT
      generalize spT T n c n = U at *
      have sp2 := sp_Planner_costOfTried (K := K) (P := P) (J := J) (S := U) hC kUZ xU
      have rg := (ctC_rg kUZ xU (n - 1) (by omega)).2.1
      have ec : (ctC U m (n - 1)).2.1 = chC U n m := rfl
      rw [ec] at sp2 rg
      have a4 := kUZ.1.1
      unfold chB at skipZ takeZ
      unfold chP at takeZ
      generalize chC U n m = co at *
      have u4Z : ∀ zZ w, up2 (up2 U q 9 1) q 10 zZ 1384 w = U 1384 w := fun zZ w => (up2_o _ _ _ _ (by omega)).trans (up2_o _ _ _ _ (by omega))
      have u5 : ∀ zZ, up2 (up2 U q 9 1) q 10 zZ 1384 4 = n := fun zZ => (u4Z zZ 4).trans a4
      have u6 : ∀ zZ yZ, up2 (up2 (up2 U q 9 1) q 10 zZ) q 11 yZ 1384 4 = n := fun zZ yZ => (up2_o _ _ _ _ (by omega)).trans (u5 zZ)
      refine VW.iload_n (pc' := 33) d_Planner_chooseOrder_32 rfl rfl ?_
      refine VW.iload_n (pc' := 34) d_Planner_chooseOrder_33 rfl rfl ?_
      refine VW.icmp_ge (tgt := 112) (pc' := 37) d_Planner_chooseOrder_34 rfl rfl (fun c34 => ?_) (fun c34 => ?_)
      case refine_1 => exact absurd c34 (by omega)
      refine VW.aload_n (pc' := 38) d_Planner_chooseOrder_37 rfl rfl ?_
      refine VW.iload_n (pc' := 39) d_Planner_chooseOrder_38 rfl rfl ?_
      refine VW.cV (ci := 3) (T := T3) (N := 14) (pc' := 42) d_Planner_chooseOrder_39 rfl mv_Planner_spellsOrder lk_Planner_149 rfl (by first | exact hQ.k | exact hQ.k12 | exact hC.k 39 rfl | exact hC.k 50 rfl) rfl rfl rfl (Nat.le_refl _) (Nat.le_refl _) (sp1) rfl rfl ?_
      refine VW.if_ne (tgt := 48) (pc' := 45) d_Planner_chooseOrder_42 rfl rfl (fun c42 => ?_) (fun c42 => ?_)
      · try have e42Z := bIn c42
        refine VW.aload_n (pc' := 49) d_Planner_chooseOrder_48 rfl rfl ?_
        refine VW.cV (ci := 3) (T := T3) (N := 14) (pc' := 52) d_Planner_chooseOrder_49 rfl mv_Planner_costOfTried lk_Planner_152 rfl (by first | exact hQ.k | exact hQ.k12 | exact hC.k 39 rfl | exact hC.k 50 rfl) rfl rfl rfl (Nat.le_refl _) (Nat.le_refl _) (sp2) rfl rfl ?_
        refine VW.istore (pc' := 54) d_Planner_chooseOrder_52 rfl rfl ?_
        refine VW.aload_n (pc' := 55) d_Planner_chooseOrder_54 rfl rfl ?_
        refine VW.gI (ci := 4) (T := T4) (N := 13) (k := 9) (k' := 9) (pc' := 58) d_Planner_chooseOrder_55 rfl lk_Planner_145 in4 rfl rfl rfl rfl (by first | exact hQ.k | exact hQ.k12 | exact hC.k 39 rfl | exact hC.k 50 rfl) (by first | exact hQ.p12 | exact hC.p 52 rfl | exact a4 | exact u5 _ | exact u6 _ _ | rfl) ?_
        refine VW.if_eq (tgt := 70) (pc' := 61) d_Planner_chooseOrder_58 rfl rfl (fun c58 => ?_) (fun c58 => ?_)
        · try have e58 := bIe c58
          refine VW.aload_n (pc' := 71) d_Planner_chooseOrder_70 rfl rfl ?_
          refine VW.iconst (pc' := 72) d_Planner_chooseOrder_71 rfl (by decide) ?_
          refine VW.pZ (ci := 4) (T := T4) (N := 13) (k := 9) (k' := 9) (ty := ty4) (pc' := 75) d_Planner_chooseOrder_72 rfl lk_Planner_145 in4 tk4 nm4 rfl rfl rfl rfl rfl rfl (by omega) (by first | exact hQ.k | exact hQ.k12 | exact hC.k 39 rfl | exact hC.k 50 rfl) ?_
          refine VW.aload_n (pc' := 76) d_Planner_chooseOrder_75 rfl rfl ?_
          refine VW.iload (pc' := 78) d_Planner_chooseOrder_76 rfl rfl ?_
          refine VW.pI (ci := 4) (T := T4) (N := 13) (k := 10) (k' := 10) (ty := ty4) (pc' := 81) d_Planner_chooseOrder_78 rfl lk_Planner_156 in4 tk4 nm4 rfl rfl rfl rfl rfl rfl (by first | exact hQ.k | exact hQ.k12 | exact hC.k 39 rfl | exact hC.k 50 rfl) ?_
          refine VW.aload_n (pc' := 82) d_Planner_chooseOrder_81 rfl rfl ?_
          refine VW.aload_n (pc' := 83) d_Planner_chooseOrder_82 rfl rfl ?_
          refine VW.gI (ci := 3) (T := T3) (N := 14) (k := 4) (k' := 4) (pc' := 86) d_Planner_chooseOrder_83 rfl lk_Planner_127 in3 rfl rfl rfl rfl (by first | exact hQ.k | exact hQ.k12 | exact hC.k 39 rfl | exact hC.k 50 rfl) (by first | exact hQ.p12 | exact hC.p 52 rfl | exact a4 | exact u5 _ | exact u6 _ _ | rfl) ?_
          refine VW.pI (ci := 4) (T := T4) (N := 13) (k := 11) (k' := 11) (ty := ty4) (pc' := 89) d_Planner_chooseOrder_86 rfl lk_Planner_159 in4 tk4 nm4 rfl rfl rfl rfl rfl rfl (by first | exact hQ.k | exact hQ.k12 | exact hC.k 39 rfl | exact hC.k 50 rfl) ?_
          refine VW.aload_n (pc' := 90) d_Planner_chooseOrder_89 rfl rfl ?_
          refine VW.gP (ci := 3) (T := T3) (N := 14) (k := 12) (k' := 12) (pc' := 93) d_Planner_chooseOrder_90 rfl lk_Planner_43 in3 rfl rfl rfl rfl (by first | exact hQ.k | exact hQ.k12 | exact hC.k 39 rfl | exact hC.k 50 rfl) (by first | exact hQ.p12 | exact hC.p 52 rfl | exact a4 | exact u5 _ | exact u6 _ _ | rfl) ?_
          refine VW.iconst (pc' := 94) d_Planner_chooseOrder_93 rfl (by decide) ?_
          refine VW.aload_n (pc' := 95) d_Planner_chooseOrder_94 rfl rfl ?_
          refine VW.gP (ci := 4) (T := T4) (N := 13) (k := 12) (k' := 12) (pc' := 98) d_Planner_chooseOrder_95 rfl lk_Planner_160 in4 rfl rfl rfl rfl (by first | exact hQ.k | exact hQ.k12 | exact hC.k 39 rfl | exact hC.k 50 rfl) (by first | exact hQ.p12 | exact hC.p 52 rfl | exact a4 | exact u5 _ | exact u6 _ _ | rfl) ?_
          refine VW.iconst (pc' := 99) d_Planner_chooseOrder_98 rfl (by decide) ?_
          refine VW.aload_n (pc' := 100) d_Planner_chooseOrder_99 rfl rfl ?_
          refine VW.gI (ci := 3) (T := T3) (N := 14) (k := 4) (k' := 4) (pc' := 103) d_Planner_chooseOrder_100 rfl lk_Planner_127 in3 rfl rfl rfl rfl (by first | exact hQ.k | exact hQ.k12 | exact hC.k 39 rfl | exact hC.k 50 rfl) (by first | exact hQ.p12 | exact hC.p 52 rfl | exact a4 | exact u5 _ | exact u6 _ _ | rfl) ?_
          refine VW.copyi (pc' := 106) d_Planner_chooseOrder_103 rfl lk_Planner_163 (hC.k 50 rfl) hQ.k12 (by omega) (by omega) (by omega) (by omega) (by omega) rfl rfl ?_
          refine VW.iinc (pc' := 109) d_Planner_chooseOrder_106 rfl rfl rfl (by omega) ?_
          refine VW.goto (pc' := 32) d_Planner_chooseOrder_109 rfl ?_
          refine VW.pick [0, 1, 2, 3] ?_
          first | exact skipZ (fun zZ => e42Z zZ.1) | exact takeZ ⟨e42Z, Or.inl c58⟩ | exact takeZ ⟨e42Z, Or.inr (by omega)⟩ | exact skipZ (fun zZ => zZ.2.elim c58 (fun w => by omega))
        · try have e58 := bIn c58
          refine VW.iload (pc' := 63) d_Planner_chooseOrder_61 rfl rfl ?_
          refine VW.aload_n (pc' := 64) d_Planner_chooseOrder_63 rfl rfl ?_
          refine VW.gI (ci := 4) (T := T4) (N := 13) (k := 10) (k' := 10) (pc' := 67) d_Planner_chooseOrder_64 rfl lk_Planner_156 in4 rfl rfl rfl rfl (by first | exact hQ.k | exact hQ.k12 | exact hC.k 39 rfl | exact hC.k 50 rfl) (by first | exact hQ.p12 | exact hC.p 52 rfl | exact a4 | exact u5 _ | exact u6 _ _ | rfl) ?_
          refine VW.icmp_ge (tgt := 106) (pc' := 70) d_Planner_chooseOrder_67 rfl rfl (fun c67 => ?_) (fun c67 => ?_)
          · refine VW.iinc (pc' := 109) d_Planner_chooseOrder_106 rfl rfl rfl (by omega) ?_
            refine VW.goto (pc' := 32) d_Planner_chooseOrder_109 rfl ?_
            refine VW.pick [0, 1, 2, 3] ?_
            first | exact skipZ (fun zZ => e42Z zZ.1) | exact takeZ ⟨e42Z, Or.inl c58⟩ | exact takeZ ⟨e42Z, Or.inr (by omega)⟩ | exact skipZ (fun zZ => zZ.2.elim c58 (fun w => by omega))
          · refine VW.aload_n (pc' := 71) d_Planner_chooseOrder_70 rfl rfl ?_
            refine VW.iconst (pc' := 72) d_Planner_chooseOrder_71 rfl (by decide) ?_
            refine VW.pZ (ci := 4) (T := T4) (N := 13) (k := 9) (k' := 9) (ty := ty4) (pc' := 75) d_Planner_chooseOrder_72 rfl lk_Planner_145 in4 tk4 nm4 rfl rfl rfl rfl rfl rfl (by omega) (by first | exact hQ.k | exact hQ.k12 | exact hC.k 39 rfl | exact hC.k 50 rfl) ?_
            refine VW.aload_n (pc' := 76) d_Planner_chooseOrder_75 rfl rfl ?_
            refine VW.iload (pc' := 78) d_Planner_chooseOrder_76 rfl rfl ?_
            refine VW.pI (ci := 4) (T := T4) (N := 13) (k := 10) (k' := 10) (ty := ty4) (pc' := 81) d_Planner_chooseOrder_78 rfl lk_Planner_156 in4 tk4 nm4 rfl rfl rfl rfl rfl rfl (by first | exact hQ.k | exact hQ.k12 | exact hC.k 39 rfl | exact hC.k 50 rfl) ?_
            refine VW.aload_n (pc' := 82) d_Planner_chooseOrder_81 rfl rfl ?_
            refine VW.aload_n (pc' := 83) d_Planner_chooseOrder_82 rfl rfl ?_
            refine VW.gI (ci := 3) (T := T3) (N := 14) (k := 4) (k' := 4) (pc' := 86) d_Planner_chooseOrder_83 rfl lk_Planner_127 in3 rfl rfl rfl rfl (by first | exact hQ.k | exact hQ.k12 | exact hC.k 39 rfl | exact hC.k 50 rfl) (by first | exact hQ.p12 | exact hC.p 52 rfl | exact a4 | exact u5 _ | exact u6 _ _ | rfl) ?_
            refine VW.pI (ci := 4) (T := T4) (N := 13) (k := 11) (k' := 11) (ty := ty4) (pc' := 89) d_Planner_chooseOrder_86 rfl lk_Planner_159 in4 tk4 nm4 rfl rfl rfl rfl rfl rfl (by first | exact hQ.k | exact hQ.k12 | exact hC.k 39 rfl | exact hC.k 50 rfl) ?_
            refine VW.aload_n (pc' := 90) d_Planner_chooseOrder_89 rfl rfl ?_
            refine VW.gP (ci := 3) (T := T3) (N := 14) (k := 12) (k' := 12) (pc' := 93) d_Planner_chooseOrder_90 rfl lk_Planner_43 in3 rfl rfl rfl rfl (by first | exact hQ.k | exact hQ.k12 | exact hC.k 39 rfl | exact hC.k 50 rfl) (by first | exact hQ.p12 | exact hC.p 52 rfl | exact a4 | exact u5 _ | exact u6 _ _ | rfl) ?_
            refine VW.iconst (pc' := 94) d_Planner_chooseOrder_93 rfl (by decide) ?_
            refine VW.aload_n (pc' := 95) d_Planner_chooseOrder_94 rfl rfl ?_
            refine VW.gP (ci := 4) (T := T4) (N := 13) (k := 12) (k' := 12) (pc' := 98) d_Planner_chooseOrder_95 rfl lk_Planner_160 in4 rfl rfl rfl rfl (by first | exact hQ.k | exact hQ.k12 | exact hC.k 39 rfl | exact hC.k 50 rfl) (by first | exact hQ.p12 | exact hC.p 52 rfl | exact a4 | exact u5 _ | exact u6 _ _ | rfl) ?_
            refine VW.iconst (pc' := 99) d_Planner_chooseOrder_98 rfl (by decide) ?_
            refine VW.aload_n (pc' := 100) d_Planner_chooseOrder_99 rfl rfl ?_
            refine VW.gI (ci := 3) (T := T3) (N := 14) (k := 4) (k' := 4) (pc' := 103) d_Planner_chooseOrder_100 rfl lk_Planner_127 in3 rfl rfl rfl rfl (by first | exact hQ.k | exact hQ.k12 | exact hC.k 39 rfl | exact hC.k 50 rfl) (by first | exact hQ.p12 | exact hC.p 52 rfl | exact a4 | exact u5 _ | exact u6 _ _ | rfl) ?_
            refine VW.copyi (pc' := 106) d_Planner_chooseOrder_103 rfl lk_Planner_163 (hC.k 50 rfl) hQ.k12 (by omega) (by omega) (by omega) (by omega) (by omega) rfl rfl ?_
            refine VW.iinc (pc' := 109) d_Planner_chooseOrder_106 rfl rfl rfl (by omega) ?_
            refine VW.goto (pc' := 32) d_Planner_chooseOrder_109 rfl ?_
            refine VW.pick [0, 1, 2, 3] ?_
            first | exact skipZ (fun zZ => e42Z zZ.1) | exact takeZ ⟨e42Z, Or.inl c58⟩ | exact takeZ ⟨e42Z, Or.inr (by omega)⟩ | exact skipZ (fun zZ => zZ.2.elim c58 (fun w => by omega))
      · try have e42Z := bIe c42
        refine VW.goto (pc' := 106) d_Planner_chooseOrder_45 rfl ?_
        refine VW.iinc (pc' := 109) d_Planner_chooseOrder_106 rfl rfl rfl (by omega) ?_
        refine VW.goto (pc' := 32) d_Planner_chooseOrder_109 rfl ?_
        refine VW.pick [0, 1, 2, 3] ?_
        first | exact skipZ (fun zZ => e42Z zZ.1) | exact takeZ ⟨e42Z, Or.inl c58⟩ | exact takeZ ⟨e42Z, Or.inr (by omega)⟩ | exact skipZ (fun zZ => zZ.2.elim c58 (fun w => by omega))
  have l : VW m_Planner_chooseOrder false (rmv 3 180) (ex K P J (chZ I q n m (n ^ n)) (.inl none)) K P J (up2 I q 9 0) 0 0 32 [(0, vR (some 1384)), (1, vR (some q)), (2, vI ((n ^ n : Nat) : Int)), (3, vI 0)] [] := loopZ (n ^ n) 0 (Nat.zero_add _)
  clear loopZ
  have pows : ∀ (l iZ : Nat), iZ + l = n → VW m_Planner_chooseOrder false (rmv 3 180) (ex K P J (chZ I q n m (n ^ n)) (.inl none)) K P J (I) 0 0 4 [(0, vR (some 1384)), (1, vR (some q)), (2, vI ((n ^ iZ : Nat) : Int)), (3, vI (iZ : Int))] [] := by
    intro l2
    induction l2 with
    | zero =>
      intro iZ hiZ
      have ei : iZ = n := by omega
      subst ei
      refine VW.iload_n (pc' := 5) d_Planner_chooseOrder_4 rfl rfl ?_
      refine VW.aload_n (pc' := 6) d_Planner_chooseOrder_5 rfl rfl ?_
      refine VW.gI (ci := 3) (T := T3) (N := 14) (k := 4) (k' := 4) (pc' := 9) d_Planner_chooseOrder_6 rfl lk_Planner_127 in3 rfl rfl rfl rfl (by first | exact hQ.k | exact hQ.k12 | exact hC.k 39 rfl | exact hC.k 50 rfl) (by first | exact hQ.p12 | exact hC.p 52 rfl | exact h4.1 | rfl) ?_
      refine VW.icmp_ge (tgt := 25) (pc' := 12) d_Planner_chooseOrder_9 rfl rfl (fun c9 => ?_) (fun c9 => ?_)
      case refine_2 => exact absurd c9 (by omega)
      refine VW.aload_n (pc' := 26) d_Planner_chooseOrder_25 rfl rfl ?_
      refine VW.iconst (pc' := 27) d_Planner_chooseOrder_26 rfl (by decide) ?_
      refine VW.pZ (ci := 4) (T := T4) (N := 13) (k := 9) (k' := 9) (ty := ty4) (pc' := 30) d_Planner_chooseOrder_27 rfl lk_Planner_145 in4 tk4 nm4 rfl rfl rfl rfl rfl rfl (by omega) (by first | exact hQ.k | exact hQ.k12 | exact hC.k 39 rfl | exact hC.k 50 rfl) ?_
      refine VW.iconst (pc' := 31) d_Planner_chooseOrder_30 rfl (by decide) ?_
      refine VW.istore_n (pc' := 32) d_Planner_chooseOrder_31 rfl rfl ?_
      refine VW.pick [0, 1, 2, 3] ?_
      exact l
    | succ l2 ihZ =>
      intro iZ hiZ
      have i1Z := ihZ (iZ + 1) (by omega)
      have pw : ((n ^ (iZ + 1) : Nat) : Int) = ((n ^ iZ : Nat) : Int) * (n : Int) := by rw [Nat.pow_succ, Int.natCast_mul]
      have pb : 0 ≤ ((n ^ iZ : Nat) : Int) * (n : Int) ∧ ((n ^ iZ : Nat) : Int) * (n : Int) ≤ 100 := by
        rw [← pw]
        have : n ^ (iZ + 1) ≤ 27 := by
          have aZ : n = 1 ∨ n = 2 ∨ n = 3 := by omega
          have bZ : iZ = 0 ∨ iZ = 1 ∨ iZ = 2 := by omega
          rcases aZ with zZ | zZ | zZ <;> subst zZ <;> rcases bZ with yZ | yZ | yZ <;> subst yZ <;> decide
        omega
      rw [pw, show ((iZ + 1 : Nat) : Int) = (iZ : Int) + 1 by omega] at i1Z
      clear ihZ pw l
      refine VW.iload_n (pc' := 5) d_Planner_chooseOrder_4 rfl rfl ?_
      refine VW.aload_n (pc' := 6) d_Planner_chooseOrder_5 rfl rfl ?_
      refine VW.gI (ci := 3) (T := T3) (N := 14) (k := 4) (k' := 4) (pc' := 9) d_Planner_chooseOrder_6 rfl lk_Planner_127 in3 rfl rfl rfl rfl (by first | exact hQ.k | exact hQ.k12 | exact hC.k 39 rfl | exact hC.k 50 rfl) (by first | exact hQ.p12 | exact hC.p 52 rfl | exact h4.1 | rfl) ?_
      refine VW.icmp_ge (tgt := 25) (pc' := 12) d_Planner_chooseOrder_9 rfl rfl (fun c9 => ?_) (fun c9 => ?_)
      case refine_1 => exact absurd c9 (by omega)
      refine VW.iload_n (pc' := 13) d_Planner_chooseOrder_12 rfl rfl ?_
      refine VW.aload_n (pc' := 14) d_Planner_chooseOrder_13 rfl rfl ?_
      refine VW.gI (ci := 3) (T := T3) (N := 14) (k := 4) (k' := 4) (pc' := 17) d_Planner_chooseOrder_14 rfl lk_Planner_127 in3 rfl rfl rfl rfl (by first | exact hQ.k | exact hQ.k12 | exact hC.k 39 rfl | exact hC.k 50 rfl) (by first | exact hQ.p12 | exact hC.p 52 rfl | exact h4.1 | rfl) ?_
      refine VW.imul (pc' := 18) d_Planner_chooseOrder_17 rfl (⟨by omega, by omega⟩) ?_
      refine VW.istore_n (pc' := 19) d_Planner_chooseOrder_18 rfl rfl ?_
      refine VW.iinc (pc' := 22) d_Planner_chooseOrder_19 rfl rfl rfl (by omega) ?_
      refine VW.goto (pc' := 4) d_Planner_chooseOrder_22 rfl ?_
      refine VW.pick [0, 1, 2, 3] ?_
      exact i1Z
  have p0Z : VW m_Planner_chooseOrder false (rmv 3 180) (ex K P J (chZ I q n m (n ^ n)) (.inl none)) K P J (I) 0 0 4 [(0, vR (some 1384)), (1, vR (some q)), (2, vI 1), (3, vI 0)] [] := by
    have := pows n 0 (Nat.zero_add _)
    rw [Nat.pow_zero] at this
    exact this
  clear pows l
  refine VW.iconst (pc' := 1) d_Planner_chooseOrder_0 rfl (by decide) ?_
  refine VW.istore_n (pc' := 2) d_Planner_chooseOrder_1 rfl rfl ?_
  refine VW.iconst (pc' := 3) d_Planner_chooseOrder_2 rfl (by decide) ?_
  refine VW.istore_n (pc' := 4) d_Planner_chooseOrder_3 rfl rfl ?_
  refine VW.pick [0, 1, 2, 3] ?_
  exact p0Z
end
