section
variable {K : KT} {P : PT} {J I : IT}
/-- bounds of the schema's numbers -/
def SchB (I : IT) : Prop := (0 ≤ I 1032 0 ∧ I 1032 0 ≤ 6) ∧ (∀ t, 0 ≤ t → t < I 1032 0 → 1 ≤ I 1034 t ∧ I 1034 t ≤ 4) ∧ (∀ t, 0 ≤ t → t < 6 → 0 ≤ I 1035 t ∧ I 1035 t ≤ 4) ∧ (∀ t j, 0 ≤ t → t < 6 → 0 ≤ j → j < I 1035 t → 0 ≤ I 1036 ((t * 4 + j) * 3) ∧ I 1036 ((t * 4 + j) * 3) < 4) ∧ (∀ c, 0 ≤ c → c < 24 → I 1037 c = -1 ∨ (0 ≤ I 1037 c ∧ I 1037 c < 6)) ∧ (0 ≤ I 1032 6 ∧ I 1032 6 ≤ 12) ∧ ∀ j, 0 ≤ j → j < I 1032 6 → 0 ≤ I 1040 (j * 5 + 2) ∧ I 1040 (j * 5 + 2) < 4
theorem SchB.of {T : IT} (h : SchB I) (h1 : T 1032 = I 1032) (h2 : T 1034 = I 1034) (h3 : T 1035 = I 1035) (h4 : T 1036 = I 1036) (h5 : T 1037 = I 1037) (h6 : T 1040 = I 1040) : SchB T := by
  unfold SchB at *
  rw [h1, h2, h3, h4, h5, h6]
  exact h
/-- what the columns of a write refer to is there -/
def frC (I : IT) (i : Nat) (c v : Int) : Prop := I 1037 (I (tX i) 8 * 4 + c) = -1 ∨ v = -2147483648 ∨ rwFind I (tX i + 33) (I 1037 (I (tX i) 8 * 4 + c)) v ≠ -1
/-- what that reads -/
def frY (I : IT) (i : Nat) (c v : Int) (t y : Int) : Prop := I 1037 (I (tX i) 8 * 4 + c) ≠ -1 ∧ v ≠ -2147483648 ∧ t = I 1037 (I (tX i) 8 * 4 + c) ∧ y = v
theorem TxV.k {i l m : Nat} (h : TxV K P i l m) : K (tX i) = some (8, 0) := h.1.1
theorem TxV.rows {i l m : Nat} (h : TxV K P i l m) : RwW K P (tX i + 32) (tX i + 33) := h.2.1
theorem TxV.pr {i l m : Nat} (h : TxV K P i l m) : P (tX i) 3 = some (tX i + 32) := h.1.2.1
theorem TxV.pw {i l m : Nat} (h : TxV K P i l m) : P (tX i) 12 = some (tX i + 13) ∧ K (tX i + 13) = some (100, 4) := h.1.2.2.1
theorem ClW.tx {K' : KT} {P' : PT} {I' : IT} {i : Nat} (h : ClW K P) (f : Fr (nTx i) K P I K' P' I') : ClW K' P' := by
  have hi : ∀ o, cnK o = true → ¬ nTx i o := fun o ho z => by
    have : o < 2000 := by
      unfold cnK at ho
      obtain ⟨x, hx, e⟩ := List.any_eq_true.mp ho
      have e := Nat.eq_of_beq_eq_true e
      have all : KCL.all (fun x => decide (x.1 < 2000)) = true := by decide
      have := List.all_eq_true.mp all x hx
      have := of_decide_eq_true this
      omega
    exact nTx_hi this z
  have hp : ∀ o, cnP o = true → ¬ nTx i o := fun o ho => hi o (by
    unfold cnP at ho
    obtain ⟨x, hx, e⟩ := List.any_eq_true.mp ho
    have e := Nat.eq_of_beq_eq_true e
    have := List.all_eq_true.mp cn_PK x hx
    rw [← e]; exact this)
  exact h.fr (fun o ho => (f o (hi o ho)).1) (fun o ho => (f o (hp o ho)).2.1)
/-- the place of the row of a write, if it is seen -/
noncomputable def seeP (I : IT) (i : Nat) : Int := if rwFind I 1129 (I (tX i) 8) (I (tX i) 9) = -1 ∨ scSee I 1032 1040 1129 (I (tX i) 1) (I (tX i) 8) (rwFind I 1129 (I (tX i) 8) (I (tX i) 9) * 4) ≠ 1 then -1 else rwFind I 1129 (I (tX i) 8) (I (tX i) 9)
theorem sp_Trial_seenPlace {i l m : Nat} (hC : ClW K P) (hV : TxV K P i l m) (hB : SchB I) (ht : 0 ≤ I (tX i) 8 ∧ I (tX i) 8 < 6) : Sp m_Trial_seenPlace false (rmv 3 80) (ex K P J I (.inl (some (vI (seeP I i))))) K P J I [vR (some 1096), vR (some (tX i))] := by
  refine Sp.ofV (by decide) (Or.inr rfl) rfl ?_
  have rg := rwF_rg I 1129 (I (tX i) 8) (I (tX i) 9)
  have y1 : rwFind I 1129 (I (tX i) 8) (I (tX i) 9) = -1 → seeP I i = -1 := fun h => if_pos (Or.inl h)
  have y2 : scSee I 1032 1040 1129 (I (tX i) 1) (I (tX i) 8) (rwFind I 1129 (I (tX i) 8) (I (tX i) 9) * 4) = 0 → seeP I i = -1 := fun h => if_pos (Or.inr (by rw [h]; decide))
  have y3 : rwFind I 1129 (I (tX i) 8) (I (tX i) 9) ≠ -1 → scSee I 1032 1040 1129 (I (tX i) 1) (I (tX i) 8) (rwFind I 1129 (I (tX i) 8) (I (tX i) 9) * 4) ≠ 0 → seeP I i = rwFind I 1129 (I (tX i) 8) (I (tX i) 9) := fun h1 h2 => if_neg (fun z => z.elim h1 (fun w => w ((bI_01 _).resolve_left h2)))
  have rp : rwFind I 1129 (I (tX i) 8) (I (tX i) 9) = -1 ∨ (0 ≤ rwFind I 1129 (I (tX i) 8) (I (tX i) 9) ∧ rwFind I 1129 (I (tX i) 8) (I (tX i) 9) < 48) := by
    unfold rwFind
    split
    · exact Or.inl rfl
    · omega
  refine VW.aload_n (pc' := 1) d_Trial_seenPlace_0 rfl rfl ?_
  refine VW.gP (ci := 9) (T := T9) (N := 8) (k := 1) (k' := 1) (pc' := 4) d_Trial_seenPlace_1 rfl lk_Trial_12 in9 rfl rfl rfl rfl (by first | exact hC.k 13 rfl | exact hC.k 14 rfl | exact hC.k 15 rfl | exact hC.k 16 rfl | exact hC.k 17 rfl | exact hC.k 18 rfl | exact hC.k 19 rfl | exact hC.k 20 rfl | exact hC.k 2 rfl | exact hC.k 3 rfl | exact hC.k 6 rfl | exact hC.k 7 rfl | exact hV.k) (by first | exact hC.p 22 rfl | exact hC.p 23 rfl | exact hC.p 24 rfl | exact hC.p 25 rfl | exact hC.p 26 rfl | exact hC.p 27 rfl | exact hC.p 28 rfl | exact hC.p 29 rfl | exact hC.p 9 rfl | exact hC.p 12 rfl | exact hC.p 13 rfl | rfl) ?_
  refine VW.aload_n (pc' := 5) d_Trial_seenPlace_4 rfl rfl ?_
  refine VW.gI (ci := 8) (T := T8) (N := 19) (k := 8) (k' := 8) (pc' := 8) d_Trial_seenPlace_5 rfl lk_Trial_59 in8 rfl rfl rfl rfl (by first | exact hC.k 13 rfl | exact hC.k 14 rfl | exact hC.k 15 rfl | exact hC.k 16 rfl | exact hC.k 17 rfl | exact hC.k 18 rfl | exact hC.k 19 rfl | exact hC.k 20 rfl | exact hC.k 2 rfl | exact hC.k 3 rfl | exact hC.k 6 rfl | exact hC.k 7 rfl | exact hV.k) (by first | exact hC.p 22 rfl | exact hC.p 23 rfl | exact hC.p 24 rfl | exact hC.p 25 rfl | exact hC.p 26 rfl | exact hC.p 27 rfl | exact hC.p 28 rfl | exact hC.p 29 rfl | exact hC.p 9 rfl | exact hC.p 12 rfl | exact hC.p 13 rfl | rfl) ?_
  refine VW.aload_n (pc' := 9) d_Trial_seenPlace_8 rfl rfl ?_
  refine VW.gI (ci := 8) (T := T8) (N := 19) (k := 9) (k' := 9) (pc' := 12) d_Trial_seenPlace_9 rfl lk_Trial_62 in8 rfl rfl rfl rfl (by first | exact hC.k 13 rfl | exact hC.k 14 rfl | exact hC.k 15 rfl | exact hC.k 16 rfl | exact hC.k 17 rfl | exact hC.k 18 rfl | exact hC.k 19 rfl | exact hC.k 20 rfl | exact hC.k 2 rfl | exact hC.k 3 rfl | exact hC.k 6 rfl | exact hC.k 7 rfl | exact hV.k) (by first | exact hC.p 22 rfl | exact hC.p 23 rfl | exact hC.p 24 rfl | exact hC.p 25 rfl | exact hC.p 26 rfl | exact hC.p 27 rfl | exact hC.p 28 rfl | exact hC.p 29 rfl | exact hC.p 9 rfl | exact hC.p 12 rfl | exact hC.p 13 rfl | rfl) ?_
  refine VW.cV (ci := 6) (T := T6) (N := 1) (pc' := 15) d_Trial_seenPlace_12 rfl mv_Rows_find lk_Trial_92 rfl (by first | exact hC.k 13 rfl | exact hC.k 14 rfl | exact hC.k 15 rfl | exact hC.k 16 rfl | exact hC.k 17 rfl | exact hC.k 18 rfl | exact hC.k 19 rfl | exact hC.k 20 rfl | exact hC.k 2 rfl | exact hC.k 3 rfl | exact hC.k 6 rfl | exact hC.k 7 rfl | exact hV.k) rfl rfl rfl (Nat.le_refl _) (Nat.le_refl _) (sp_Rows_find hC.af ht) rfl rfl ?_
  refine VW.istore_n (pc' := 16) d_Trial_seenPlace_15 rfl rfl ?_
  refine VW.iload_n (pc' := 17) d_Trial_seenPlace_16 rfl rfl ?_
  refine VW.iconst (pc' := 18) d_Trial_seenPlace_17 rfl (by decide) ?_
  refine VW.icmp_eq (tgt := 50) (pc' := 21) d_Trial_seenPlace_18 rfl rfl (fun c18 => ?_) (fun c18 => ?_)
  · refine VW.iconst (pc' := 51) d_Trial_seenPlace_50 rfl (by decide) ?_
    exact VW.iret d_Trial_seenPlace_51 rfl rfl (Nat.zero_le _) (Nat.zero_le _) (ex_v (by first | exact y1 c18 | exact y2 c47))
  · refine VW.aload_n (pc' := 22) d_Trial_seenPlace_21 rfl rfl ?_
    refine VW.gP (ci := 9) (T := T9) (N := 8) (k := 0) (k' := 0) (pc' := 25) d_Trial_seenPlace_22 rfl lk_Trial_35 in9 rfl rfl rfl rfl (by first | exact hC.k 13 rfl | exact hC.k 14 rfl | exact hC.k 15 rfl | exact hC.k 16 rfl | exact hC.k 17 rfl | exact hC.k 18 rfl | exact hC.k 19 rfl | exact hC.k 20 rfl | exact hC.k 2 rfl | exact hC.k 3 rfl | exact hC.k 6 rfl | exact hC.k 7 rfl | exact hV.k) (by first | exact hC.p 22 rfl | exact hC.p 23 rfl | exact hC.p 24 rfl | exact hC.p 25 rfl | exact hC.p 26 rfl | exact hC.p 27 rfl | exact hC.p 28 rfl | exact hC.p 29 rfl | exact hC.p 9 rfl | exact hC.p 12 rfl | exact hC.p 13 rfl | rfl) ?_
    refine VW.aload_n (pc' := 26) d_Trial_seenPlace_25 rfl rfl ?_
    refine VW.gI (ci := 8) (T := T8) (N := 19) (k := 1) (k' := 1) (pc' := 29) d_Trial_seenPlace_26 rfl lk_Trial_126 in8 rfl rfl rfl rfl (by first | exact hC.k 13 rfl | exact hC.k 14 rfl | exact hC.k 15 rfl | exact hC.k 16 rfl | exact hC.k 17 rfl | exact hC.k 18 rfl | exact hC.k 19 rfl | exact hC.k 20 rfl | exact hC.k 2 rfl | exact hC.k 3 rfl | exact hC.k 6 rfl | exact hC.k 7 rfl | exact hV.k) (by first | exact hC.p 22 rfl | exact hC.p 23 rfl | exact hC.p 24 rfl | exact hC.p 25 rfl | exact hC.p 26 rfl | exact hC.p 27 rfl | exact hC.p 28 rfl | exact hC.p 29 rfl | exact hC.p 9 rfl | exact hC.p 12 rfl | exact hC.p 13 rfl | rfl) ?_
    refine VW.aload_n (pc' := 30) d_Trial_seenPlace_29 rfl rfl ?_
    refine VW.gI (ci := 8) (T := T8) (N := 19) (k := 8) (k' := 8) (pc' := 33) d_Trial_seenPlace_30 rfl lk_Trial_59 in8 rfl rfl rfl rfl (by first | exact hC.k 13 rfl | exact hC.k 14 rfl | exact hC.k 15 rfl | exact hC.k 16 rfl | exact hC.k 17 rfl | exact hC.k 18 rfl | exact hC.k 19 rfl | exact hC.k 20 rfl | exact hC.k 2 rfl | exact hC.k 3 rfl | exact hC.k 6 rfl | exact hC.k 7 rfl | exact hV.k) (by first | exact hC.p 22 rfl | exact hC.p 23 rfl | exact hC.p 24 rfl | exact hC.p 25 rfl | exact hC.p 26 rfl | exact hC.p 27 rfl | exact hC.p 28 rfl | exact hC.p 29 rfl | exact hC.p 9 rfl | exact hC.p 12 rfl | exact hC.p 13 rfl | rfl) ?_
    refine VW.aload_n (pc' := 34) d_Trial_seenPlace_33 rfl rfl ?_
    refine VW.gP (ci := 9) (T := T9) (N := 8) (k := 1) (k' := 1) (pc' := 37) d_Trial_seenPlace_34 rfl lk_Trial_12 in9 rfl rfl rfl rfl (by first | exact hC.k 13 rfl | exact hC.k 14 rfl | exact hC.k 15 rfl | exact hC.k 16 rfl | exact hC.k 17 rfl | exact hC.k 18 rfl | exact hC.k 19 rfl | exact hC.k 20 rfl | exact hC.k 2 rfl | exact hC.k 3 rfl | exact hC.k 6 rfl | exact hC.k 7 rfl | exact hV.k) (by first | exact hC.p 22 rfl | exact hC.p 23 rfl | exact hC.p 24 rfl | exact hC.p 25 rfl | exact hC.p 26 rfl | exact hC.p 27 rfl | exact hC.p 28 rfl | exact hC.p 29 rfl | exact hC.p 9 rfl | exact hC.p 12 rfl | exact hC.p 13 rfl | rfl) ?_
    refine VW.gP (ci := 6) (T := T6) (N := 1) (k := 0) (k' := 0) (pc' := 40) d_Trial_seenPlace_37 rfl lk_Trial_117 in6 rfl rfl rfl rfl (by first | exact hC.k 13 rfl | exact hC.k 14 rfl | exact hC.k 15 rfl | exact hC.k 16 rfl | exact hC.k 17 rfl | exact hC.k 18 rfl | exact hC.k 19 rfl | exact hC.k 20 rfl | exact hC.k 2 rfl | exact hC.k 3 rfl | exact hC.k 6 rfl | exact hC.k 7 rfl | exact hV.k) (by first | exact hC.p 22 rfl | exact hC.p 23 rfl | exact hC.p 24 rfl | exact hC.p 25 rfl | exact hC.p 26 rfl | exact hC.p 27 rfl | exact hC.p 28 rfl | exact hC.p 29 rfl | exact hC.p 9 rfl | exact hC.p 12 rfl | exact hC.p 13 rfl | rfl) ?_
    refine VW.iload_n (pc' := 41) d_Trial_seenPlace_40 rfl rfl ?_
    refine VW.cS (pc' := 44) d_Trial_seenPlace_41 rfl ms_Rows_startOf lk_Trial_120 rfl rfl rfl (Nat.le_refl _) (Nat.le_refl _) (sp_Rows_startOf (by omega)) rfl rfl ?_
    refine VW.cV (ci := 7) (T := T7) (N := 8) (pc' := 47) d_Trial_seenPlace_44 rfl mv_Schema_isSeen lk_Trial_129 rfl (by first | exact hC.k 13 rfl | exact hC.k 14 rfl | exact hC.k 15 rfl | exact hC.k 16 rfl | exact hC.k 17 rfl | exact hC.k 18 rfl | exact hC.k 19 rfl | exact hC.k 20 rfl | exact hC.k 2 rfl | exact hC.k 3 rfl | exact hC.k 6 rfl | exact hC.k 7 rfl | exact hV.k) rfl rfl rfl (Nat.le_refl _) (Nat.le_refl _) (sp_Schema_isSeen hC.sc (hC.k 20 rfl) hB.2.2.2.2.2.1 hB.2.2.2.2.2.2 (by omega)) rfl rfl ?_
    refine VW.if_ne (tgt := 52) (pc' := 50) d_Trial_seenPlace_47 rfl rfl (fun c47 => ?_) (fun c47 => ?_)
    · try have e47 := bIn c47
      refine VW.iload_n (pc' := 53) d_Trial_seenPlace_52 rfl rfl ?_
      exact VW.iret d_Trial_seenPlace_53 rfl rfl (Nat.zero_le _) (Nat.zero_le _) (ex_v (y3 c18 c47))
    · try have e47 := bIe c47
      refine VW.iconst (pc' := 51) d_Trial_seenPlace_50 rfl (by decide) ?_
      exact VW.iret d_Trial_seenPlace_51 rfl rfl (Nat.zero_le _) (Nat.zero_le _) (ex_v (by first | exact y1 c18 | exact y2 c47))
theorem finds_ex {i l m : Nat} {c v : Int} (hC : ClW K P) (hV : TxV K P i l m) (hN : TxN I i l m) (hB : SchB I) (ht : 0 ≤ I (tX i) 8 ∧ I (tX i) 8 < 6) (hc : 0 ≤ c ∧ c < 4) (hb : I (tX i) 14 < 100000) : ∃ (l' ce n : Nat) (K' : KT) (P' : PT) (I' : IT), (TxV K' P' i l' m ∧ TxN I' i l' m) ∧ Fr (nTx i) K P I K' P' I' ∧ (ce + 2 * l = 2 * l' ∧ n + ps l = ps l') ∧ RdD I I' i l l' m (fun _ => False) (frY I i c v) 1 ∧
    Sp m_Trial_findsReferred false ({ frames := 4, cells := ce, slots := n, locals := 160 } : Room) (ex K' P' J I' (.inl (some (vI (bI (frC I i c v)))))) K P J I [vR (some 1096), vR (some (tX i)), vI c, vI v] := by
  have htg := hB.2.2.2.2.1 (I (tX i) 8 * 4 + c) (by omega) (by omega)
  by_cases h0 : I 1037 (I (tX i) 8 * 4 + c) = -1 ∨ v = -2147483648
  · have fin : bI (frC I i c v) = 1 := bI1 (h0.elim Or.inl (fun z => Or.inr (Or.inl z)))
    refine ⟨l, 0, 0, K, P, I, ⟨hV, hN⟩, Fr.rf, ⟨by omega, by omega⟩, RdD.rf.iff (fun _ _ _ => Iff.rfl) (fun t y => ⟨False.elim, fun z => h0.elim (fun w => z.1 w) (fun w => z.2.1 w)⟩) (by omega), ?_⟩
    refine Sp.ofV (by decide) (Or.inr rfl) rfl ?_
    by_cases h1 : I 1037 (I (tX i) 8 * 4 + c) = -1
    · skip
      refine VW.aload_n (pc' := 1) d_Trial_findsReferred_0 rfl rfl ?_
      refine VW.gP (ci := 9) (T := T9) (N := 8) (k := 0) (k' := 0) (pc' := 4) d_Trial_findsReferred_1 rfl lk_Trial_35 in9 rfl rfl rfl rfl (by first | exact hC.k 13 rfl | exact hC.k 14 rfl | exact hC.k 15 rfl | exact hC.k 16 rfl | exact hC.k 17 rfl | exact hC.k 18 rfl | exact hC.k 19 rfl | exact hC.k 20 rfl | exact hC.k 2 rfl | exact hC.k 3 rfl | exact hC.k 6 rfl | exact hC.k 7 rfl | exact hV.k | exact hV.rows.1) (by first | exact hC.p 22 rfl | exact hC.p 23 rfl | exact hC.p 24 rfl | exact hC.p 25 rfl | exact hC.p 26 rfl | exact hC.p 27 rfl | exact hC.p 28 rfl | exact hC.p 29 rfl | exact hC.p 9 rfl | exact hC.p 12 rfl | exact hC.p 13 rfl | exact hV.pr | rfl) ?_
      refine VW.aload_n (pc' := 5) d_Trial_findsReferred_4 rfl rfl ?_
      refine VW.gI (ci := 8) (T := T8) (N := 19) (k := 8) (k' := 8) (pc' := 8) d_Trial_findsReferred_5 rfl lk_Trial_59 in8 rfl rfl rfl rfl (by first | exact hC.k 13 rfl | exact hC.k 14 rfl | exact hC.k 15 rfl | exact hC.k 16 rfl | exact hC.k 17 rfl | exact hC.k 18 rfl | exact hC.k 19 rfl | exact hC.k 20 rfl | exact hC.k 2 rfl | exact hC.k 3 rfl | exact hC.k 6 rfl | exact hC.k 7 rfl | exact hV.k | exact hV.rows.1) (by first | exact hC.p 22 rfl | exact hC.p 23 rfl | exact hC.p 24 rfl | exact hC.p 25 rfl | exact hC.p 26 rfl | exact hC.p 27 rfl | exact hC.p 28 rfl | exact hC.p 29 rfl | exact hC.p 9 rfl | exact hC.p 12 rfl | exact hC.p 13 rfl | exact hV.pr | rfl) ?_
      refine VW.iload_n (pc' := 9) d_Trial_findsReferred_8 rfl rfl ?_
      refine VW.cV (ci := 7) (T := T7) (N := 8) (pc' := 12) d_Trial_findsReferred_9 rfl mv_Schema_target lk_Trial_123 rfl (by first | exact hC.k 13 rfl | exact hC.k 14 rfl | exact hC.k 15 rfl | exact hC.k 16 rfl | exact hC.k 17 rfl | exact hC.k 18 rfl | exact hC.k 19 rfl | exact hC.k 20 rfl | exact hC.k 2 rfl | exact hC.k 3 rfl | exact hC.k 6 rfl | exact hC.k 7 rfl | exact hV.k | exact hV.rows.1) rfl rfl rfl (Nat.le_refl _) (Nat.le_refl _) (sp_Schema_target hC.sc ht hc) rfl rfl ?_
      refine VW.istore (pc' := 14) d_Trial_findsReferred_12 rfl rfl ?_
      refine VW.iload (pc' := 16) d_Trial_findsReferred_14 rfl rfl ?_
      refine VW.iconst (pc' := 17) d_Trial_findsReferred_16 rfl (by decide) ?_
      refine VW.icmp_eq (tgt := 26) (pc' := 20) d_Trial_findsReferred_17 rfl rfl (fun c17 => ?_) (fun c17 => ?_)
      case refine_2 => exact absurd c17 (by omega)
      refine VW.iconst (pc' := 27) d_Trial_findsReferred_26 rfl (by decide) ?_
      exact VW.iret d_Trial_findsReferred_27 rfl rfl (Nat.zero_le _) (Nat.zero_le _) (ex_v fin)
    · have h2 := h0.resolve_left h1
      refine VW.aload_n (pc' := 1) d_Trial_findsReferred_0 rfl rfl ?_
      refine VW.gP (ci := 9) (T := T9) (N := 8) (k := 0) (k' := 0) (pc' := 4) d_Trial_findsReferred_1 rfl lk_Trial_35 in9 rfl rfl rfl rfl (by first | exact hC.k 13 rfl | exact hC.k 14 rfl | exact hC.k 15 rfl | exact hC.k 16 rfl | exact hC.k 17 rfl | exact hC.k 18 rfl | exact hC.k 19 rfl | exact hC.k 20 rfl | exact hC.k 2 rfl | exact hC.k 3 rfl | exact hC.k 6 rfl | exact hC.k 7 rfl | exact hV.k | exact hV.rows.1) (by first | exact hC.p 22 rfl | exact hC.p 23 rfl | exact hC.p 24 rfl | exact hC.p 25 rfl | exact hC.p 26 rfl | exact hC.p 27 rfl | exact hC.p 28 rfl | exact hC.p 29 rfl | exact hC.p 9 rfl | exact hC.p 12 rfl | exact hC.p 13 rfl | exact hV.pr | rfl) ?_
      refine VW.aload_n (pc' := 5) d_Trial_findsReferred_4 rfl rfl ?_
      refine VW.gI (ci := 8) (T := T8) (N := 19) (k := 8) (k' := 8) (pc' := 8) d_Trial_findsReferred_5 rfl lk_Trial_59 in8 rfl rfl rfl rfl (by first | exact hC.k 13 rfl | exact hC.k 14 rfl | exact hC.k 15 rfl | exact hC.k 16 rfl | exact hC.k 17 rfl | exact hC.k 18 rfl | exact hC.k 19 rfl | exact hC.k 20 rfl | exact hC.k 2 rfl | exact hC.k 3 rfl | exact hC.k 6 rfl | exact hC.k 7 rfl | exact hV.k | exact hV.rows.1) (by first | exact hC.p 22 rfl | exact hC.p 23 rfl | exact hC.p 24 rfl | exact hC.p 25 rfl | exact hC.p 26 rfl | exact hC.p 27 rfl | exact hC.p 28 rfl | exact hC.p 29 rfl | exact hC.p 9 rfl | exact hC.p 12 rfl | exact hC.p 13 rfl | exact hV.pr | rfl) ?_
      refine VW.iload_n (pc' := 9) d_Trial_findsReferred_8 rfl rfl ?_
      refine VW.cV (ci := 7) (T := T7) (N := 8) (pc' := 12) d_Trial_findsReferred_9 rfl mv_Schema_target lk_Trial_123 rfl (by first | exact hC.k 13 rfl | exact hC.k 14 rfl | exact hC.k 15 rfl | exact hC.k 16 rfl | exact hC.k 17 rfl | exact hC.k 18 rfl | exact hC.k 19 rfl | exact hC.k 20 rfl | exact hC.k 2 rfl | exact hC.k 3 rfl | exact hC.k 6 rfl | exact hC.k 7 rfl | exact hV.k | exact hV.rows.1) rfl rfl rfl (Nat.le_refl _) (Nat.le_refl _) (sp_Schema_target hC.sc ht hc) rfl rfl ?_
      refine VW.istore (pc' := 14) d_Trial_findsReferred_12 rfl rfl ?_
      refine VW.iload (pc' := 16) d_Trial_findsReferred_14 rfl rfl ?_
      refine VW.iconst (pc' := 17) d_Trial_findsReferred_16 rfl (by decide) ?_
      refine VW.icmp_eq (tgt := 26) (pc' := 20) d_Trial_findsReferred_17 rfl rfl (fun c17 => ?_) (fun c17 => ?_)
      case refine_1 => exact absurd c17 (by omega)
      refine VW.iload_n (pc' := 21) d_Trial_findsReferred_20 rfl rfl ?_
      refine VW.ldc (pc' := 23) (z := -2147483648) d_Trial_findsReferred_21 rfl lk_Trial_75 (by decide) (by decide) ?_
      refine VW.icmp_ne (tgt := 28) (pc' := 26) d_Trial_findsReferred_23 rfl rfl (fun c23 => ?_) (fun c23 => ?_)
      case refine_1 => exact absurd c23 (by omega)
      refine VW.iconst (pc' := 27) d_Trial_findsReferred_26 rfl (by decide) ?_
      exact VW.iret d_Trial_findsReferred_27 rfl rfl (Nat.zero_le _) (Nat.zero_le _) (ex_v fin)
  · have n1 : I 1037 (I (tX i) 8 * 4 + c) ≠ -1 := fun z => h0 (Or.inl z)
    have n2 : v ≠ -2147483648 := fun z => h0 (Or.inr z)
    have t6 := htg.resolve_left n1
    obtain ⟨l', ce, n, K', P', I', ⟨f1, f1'⟩, f2, f3, f4, f5, -, sp⟩ := readKey_ex (J := J) (t := I 1037 (I (tX i) 8 * 4 + c)) (y := v) hV hN t6 hb
    have cells : I' (tX i + 33) = I (tX i + 33) := f4.2.2.2.1
    have ef : rwFind I' (tX i + 33) (I 1037 (I (tX i) 8 * 4 + c)) v = rwFind I (tX i + 33) (I 1037 (I (tX i) 8 * 4 + c)) v := by
      unfold rwFind rwF
      rw [cells]
    refine ⟨l', ce, n, K', P', I', ⟨f1, f1'⟩, f2, f3, (RdD.key f4 f5).iff (fun _ _ _ => Iff.rfl) (fun t y => ⟨fun z => ⟨n1, n2, z.1, z.2⟩, fun z => z.2.2⟩) (Int.le_refl _), ?_⟩
    have y1 : rwFind I (tX i + 33) (I 1037 (I (tX i) 8 * 4 + c)) v = -1 → bI (frC I i c v) = 0 := fun h => bI0 (fun z => z.elim n1 (fun w => w.elim n2 (fun u => u h)))
    have y2 : rwFind I (tX i + 33) (I 1037 (I (tX i) 8 * 4 + c)) v ≠ -1 → bI (frC I i c v) = 1 := fun h => bI1 (Or.inr (Or.inr h))
    refine Sp.ofV (by decide) (Or.inr rfl) rfl ?_
    refine VW.aload_n (pc' := 1) d_Trial_findsReferred_0 rfl rfl ?_
    refine VW.gP (ci := 9) (T := T9) (N := 8) (k := 0) (k' := 0) (pc' := 4) d_Trial_findsReferred_1 rfl lk_Trial_35 in9 rfl rfl rfl rfl (by first | exact hC.k 13 rfl | exact hC.k 14 rfl | exact hC.k 15 rfl | exact hC.k 16 rfl | exact hC.k 17 rfl | exact hC.k 18 rfl | exact hC.k 19 rfl | exact hC.k 20 rfl | exact hC.k 2 rfl | exact hC.k 3 rfl | exact hC.k 6 rfl | exact hC.k 7 rfl | exact hV.k | exact hV.rows.1 | exact f1.k | exact f1.rows.1) (by first | exact hC.p 22 rfl | exact hC.p 23 rfl | exact hC.p 24 rfl | exact hC.p 25 rfl | exact hC.p 26 rfl | exact hC.p 27 rfl | exact hC.p 28 rfl | exact hC.p 29 rfl | exact hC.p 9 rfl | exact hC.p 12 rfl | exact hC.p 13 rfl | exact hV.pr | exact f1.pr | rfl) ?_
    refine VW.aload_n (pc' := 5) d_Trial_findsReferred_4 rfl rfl ?_
    refine VW.gI (ci := 8) (T := T8) (N := 19) (k := 8) (k' := 8) (pc' := 8) d_Trial_findsReferred_5 rfl lk_Trial_59 in8 rfl rfl rfl rfl (by first | exact hC.k 13 rfl | exact hC.k 14 rfl | exact hC.k 15 rfl | exact hC.k 16 rfl | exact hC.k 17 rfl | exact hC.k 18 rfl | exact hC.k 19 rfl | exact hC.k 20 rfl | exact hC.k 2 rfl | exact hC.k 3 rfl | exact hC.k 6 rfl | exact hC.k 7 rfl | exact hV.k | exact hV.rows.1 | exact f1.k | exact f1.rows.1) (by first | exact hC.p 22 rfl | exact hC.p 23 rfl | exact hC.p 24 rfl | exact hC.p 25 rfl | exact hC.p 26 rfl | exact hC.p 27 rfl | exact hC.p 28 rfl | exact hC.p 29 rfl | exact hC.p 9 rfl | exact hC.p 12 rfl | exact hC.p 13 rfl | exact hV.pr | exact f1.pr | rfl) ?_
    refine VW.iload_n (pc' := 9) d_Trial_findsReferred_8 rfl rfl ?_
    refine VW.cV (ci := 7) (T := T7) (N := 8) (pc' := 12) d_Trial_findsReferred_9 rfl mv_Schema_target lk_Trial_123 rfl (by first | exact hC.k 13 rfl | exact hC.k 14 rfl | exact hC.k 15 rfl | exact hC.k 16 rfl | exact hC.k 17 rfl | exact hC.k 18 rfl | exact hC.k 19 rfl | exact hC.k 20 rfl | exact hC.k 2 rfl | exact hC.k 3 rfl | exact hC.k 6 rfl | exact hC.k 7 rfl | exact hV.k | exact hV.rows.1 | exact f1.k | exact f1.rows.1) rfl rfl rfl (Nat.zero_le _) (Nat.zero_le _) (sp_Schema_target hC.sc ht hc) rfl rfl ?_
    refine VW.istore (pc' := 14) d_Trial_findsReferred_12 rfl rfl ?_
    refine VW.iload (pc' := 16) d_Trial_findsReferred_14 rfl rfl ?_
    refine VW.iconst (pc' := 17) d_Trial_findsReferred_16 rfl (by decide) ?_
    refine VW.icmp_eq (tgt := 26) (pc' := 20) d_Trial_findsReferred_17 rfl rfl (fun c17 => ?_) (fun c17 => ?_)
    case refine_1 => exact absurd c17 (by omega)
    refine VW.iload_n (pc' := 21) d_Trial_findsReferred_20 rfl rfl ?_
    refine VW.ldc (pc' := 23) (z := -2147483648) d_Trial_findsReferred_21 rfl lk_Trial_75 (by decide) (by decide) ?_
    refine VW.icmp_ne (tgt := 28) (pc' := 26) d_Trial_findsReferred_23 rfl rfl (fun c23 => ?_) (fun c23 => ?_)
    case refine_2 => exact absurd c23 (by omega)
    refine VW.aload_n (pc' := 29) d_Trial_findsReferred_28 rfl rfl ?_
    refine VW.iload (pc' := 31) d_Trial_findsReferred_29 rfl rfl ?_
    refine VW.iload_n (pc' := 32) d_Trial_findsReferred_31 rfl rfl ?_
    refine VW.cV (ci := 8) (T := T8) (N := 19) (pc' := 35) d_Trial_findsReferred_32 rfl mv_Transaction_readKey lk_Trial_65 rfl (by first | exact hC.k 13 rfl | exact hC.k 14 rfl | exact hC.k 15 rfl | exact hC.k 16 rfl | exact hC.k 17 rfl | exact hC.k 18 rfl | exact hC.k 19 rfl | exact hC.k 20 rfl | exact hC.k 2 rfl | exact hC.k 3 rfl | exact hC.k 6 rfl | exact hC.k 7 rfl | exact hV.k | exact hV.rows.1 | exact f1.k | exact f1.rows.1) rfl rfl rfl (by exact Nat.le_of_eq (Nat.zero_add _)) (by exact Nat.le_of_eq (Nat.zero_add _)) (sp) rfl rfl ?_
    refine VW.aload_n (pc' := 36) d_Trial_findsReferred_35 rfl rfl ?_
    refine VW.gP (ci := 8) (T := T8) (N := 19) (k := 3) (k' := 3) (pc' := 39) d_Trial_findsReferred_36 rfl lk_Trial_39 in8 rfl rfl rfl rfl (by first | exact hC.k 13 rfl | exact hC.k 14 rfl | exact hC.k 15 rfl | exact hC.k 16 rfl | exact hC.k 17 rfl | exact hC.k 18 rfl | exact hC.k 19 rfl | exact hC.k 20 rfl | exact hC.k 2 rfl | exact hC.k 3 rfl | exact hC.k 6 rfl | exact hC.k 7 rfl | exact hV.k | exact hV.rows.1 | exact f1.k | exact f1.rows.1) (by first | exact hC.p 22 rfl | exact hC.p 23 rfl | exact hC.p 24 rfl | exact hC.p 25 rfl | exact hC.p 26 rfl | exact hC.p 27 rfl | exact hC.p 28 rfl | exact hC.p 29 rfl | exact hC.p 9 rfl | exact hC.p 12 rfl | exact hC.p 13 rfl | exact hV.pr | exact f1.pr | rfl) ?_
    refine VW.iload (pc' := 41) d_Trial_findsReferred_39 rfl rfl ?_
    refine VW.iload_n (pc' := 42) d_Trial_findsReferred_41 rfl rfl ?_
    refine VW.cV (ci := 6) (T := T6) (N := 1) (pc' := 45) d_Trial_findsReferred_42 rfl mv_Rows_find lk_Trial_92 rfl (by first | exact hC.k 13 rfl | exact hC.k 14 rfl | exact hC.k 15 rfl | exact hC.k 16 rfl | exact hC.k 17 rfl | exact hC.k 18 rfl | exact hC.k 19 rfl | exact hC.k 20 rfl | exact hC.k 2 rfl | exact hC.k 3 rfl | exact hC.k 6 rfl | exact hC.k 7 rfl | exact hV.k | exact hV.rows.1 | exact f1.k | exact f1.rows.1) rfl rfl rfl (by show 0 + ce + 0 ≤ ce; omega) (by show 0 + n + 0 ≤ n; omega) (sp_Rows_find f1.rows t6) rfl rfl ?_
    rw [ef]
    refine VW.iconst (pc' := 46) d_Trial_findsReferred_45 rfl (by decide) ?_
    refine VW.icmp_eq (tgt := 53) (pc' := 49) d_Trial_findsReferred_46 rfl rfl (fun c46 => ?_) (fun c46 => ?_)
    · refine VW.iconst (pc' := 54) d_Trial_findsReferred_53 rfl (by decide) ?_
      exact VW.iret d_Trial_findsReferred_54 rfl rfl (by show 0 + ce + 0 ≤ ce; omega) (by show 0 + n + 0 ≤ n; omega) (by first | exact ex_v (y1 c46) | exact ex_v (y2 c46))
    · refine VW.iconst (pc' := 50) d_Trial_findsReferred_49 rfl (by decide) ?_
      refine VW.goto (pc' := 54) d_Trial_findsReferred_50 rfl ?_
      exact VW.iret d_Trial_findsReferred_54 rfl rfl (by show 0 + ce + 0 ≤ ce; omega) (by show 0 + n + 0 ≤ n; omega) (by first | exact ex_v (y1 c46) | exact ex_v (y2 c46))
end
