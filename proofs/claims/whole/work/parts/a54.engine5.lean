section
variable {K : KT} {P : PT} {J I : IT}
/-- what a commit stamps, after j footprints -/
def smI (I : IT) (f : Nat) : Nat → IT
  | 0 => up2 I 1064 7 (I 1064 7 + 1)
  | j + 1 => up2 (up2 (smI I f j) 1070 (I f (j : Int)) (I 1064 7 + 1)) 1071 (I f (j : Int) / 2001) (I 1064 7 + 1)
theorem smI_o {f o : Nat} (h1 : o ≠ 1064) (h2 : o ≠ 1070) (h3 : o ≠ 1071) : ∀ j, smI I f j o = I o := by
  intro j
  induction j with
  | zero => exact funext (fun z => up2_o _ _ _ _ h1)
  | succ j ih => exact (funext (fun z => (up2_o _ _ _ _ h3).trans (up2_o _ _ _ _ h2))).trans ih
theorem smI_e {f : Nat} (z : Int) : ∀ j, smI I f j 1064 z = if z = 7 then I 1064 7 + 1 else I 1064 z := by
  intro j
  induction j with
  | zero =>
    show up2 I 1064 7 (I 1064 7 + 1) 1064 z = _
    unfold up2
    simp only [true_and]
  | succ j ih => exact ((up2_o _ _ _ _ (by decide)).trans (up2_o _ _ _ _ (by decide))).trans ih
theorem smI_s {f : Nat} (z : Int) : ∀ j : Nat, ((∃ q : Nat, q < j ∧ I f (q : Int) = z) → smI I f j 1070 z = I 1064 7 + 1) ∧ ((∀ q : Nat, q < j → I f (q : Int) ≠ z) → smI I f j 1070 z = I 1070 z) := by
  intro j
  induction j with
  | zero => exact ⟨fun ⟨q, h, _⟩ => by omega, fun _ => up2_o _ _ _ _ (by decide)⟩
  | succ j ih =>
    have e : smI I f (j + 1) 1070 z = up2 (smI I f j) 1070 (I f (j : Int)) (I 1064 7 + 1) 1070 z := up2_o _ _ _ _ (by decide)
    refine ⟨fun ⟨q, h, hq⟩ => ?_, fun h => ?_⟩
    · rw [e]
      by_cases c : z = I f (j : Int)
      · rw [c, up2_eq]
      · rw [up2_k _ _ _ _ c]
        refine ih.1 ⟨q, ?_, hq⟩
        by_cases qj : q = j
        · exact absurd (by rw [← hq, qj]) c
        · omega
    · rw [e, up2_k _ _ _ _ (h j (by omega)).symm]
      exact ih.2 (fun q hq => h q (by omega))
theorem smI_t {f : Nat} (z : Int) : ∀ j : Nat, ((∃ q : Nat, q < j ∧ I f (q : Int) / 2001 = z) → smI I f j 1071 z = I 1064 7 + 1) ∧ ((∀ q : Nat, q < j → I f (q : Int) / 2001 ≠ z) → smI I f j 1071 z = I 1071 z) := by
  intro j
  induction j with
  | zero => exact ⟨fun ⟨q, h, _⟩ => by omega, fun _ => up2_o _ _ _ _ (by decide)⟩
  | succ j ih =>
    refine ⟨fun ⟨q, h, hq⟩ => ?_, fun h => ?_⟩
    · show up2 _ 1071 (I f (j : Int) / 2001) (I 1064 7 + 1) 1071 z = _
      by_cases c : z = I f (j : Int) / 2001
      · rw [c, up2_eq]
      · rw [up2_k _ _ _ _ c, up2_o _ _ _ _ (by decide)]
        refine ih.1 ⟨q, ?_, hq⟩
        by_cases qj : q = j
        · exact absurd (by rw [← hq, qj]) c
        · omega
    · show up2 _ 1071 (I f (j : Int) / 2001) (I 1064 7 + 1) 1071 z = _
      rw [up2_k _ _ _ _ (h j (by omega)).symm, up2_o _ _ _ _ (by decide)]
      exact ih.2 (fun q hq => h q (by omega))
theorem sp_Engine_stampWrites {i l m : Nat} (hC : ClW K P) (hV : TxV K P i l m) (hN : TxN I i l m) (hc : 0 ≤ I 1064 7 ∧ I 1064 7 < 100000) : Sp m_Engine_stampWrites false (rmv 0 0) (ex K P J (smI I (tX i + 80 + m) (I (tX i) 17).toNat) (.inl none)) K P J I [vR (some 1064), vR (some (tX i))] := by
  refine Sp.ofV (by decide) (Or.inr rfl) rfl ?_
  have hx := hV.1.1
  have hf := hV.1.2.2.2.2.2
  have b := hN.2.1
  have x0 : 2000 ≤ tX i := by unfold tX; omega
  have e2 : (((8 * 2 ^ m : Nat)) : Int) = 8 * 2 ^ m := by simp
  have loop : ∀ (w j : Nat), (j : Int) + w = I (tX i) 17 → VW m_Engine_stampWrites false (rmv 0 0) (ex K P J (smI I (tX i + 80 + m) (I (tX i) 17).toNat) (.inl none)) K P J (smI I (tX i + 80 + m) j) 0 0 12 [(0, vR (some 1064)), (1, vR (some (tX i))), (2, vI (j : Int))] [] := by
    intro w
    induction w with
    | zero =>
      intro j hj
      have h17 : smI I (tX i + 80 + m) j (tX i) 17 = I (tX i) 17 := congrFun (smI_o (by omega) (by omega) (by omega) j) _
      have ej : (I (tX i) 17).toNat = j := by omega
      rw [ej]
      refine VW.iload_n (pc' := 13) d_Engine_stampWrites_12 rfl rfl ?_
      refine VW.aload_n (pc' := 14) d_Engine_stampWrites_13 rfl rfl ?_
      refine VW.gI (ci := 8) (T := T8) (N := 19) (k := 17) (k' := 17) (pc' := 17) d_Engine_stampWrites_14 rfl lk_Engine_179 in8 rfl rfl rfl rfl (by first | exact hC.k 9 rfl | exact hC.k 10 rfl | exact hC.k 11 rfl | exact hC.k 12 rfl | exact hC.k 21 rfl | exact hC.k 22 rfl | exact hC.k 23 rfl | exact hx | exact hf.2) (by first | exact hC.p 15 rfl | exact hC.p 16 rfl | exact hC.p 18 rfl | exact hC.p 19 rfl | exact hC.p 20 rfl | exact hC.p 21 rfl | exact hC.p 30 rfl | exact h17 | exact hf.1 | rfl) ?_
      refine VW.icmp_ge (tgt := 57) (pc' := 20) d_Engine_stampWrites_17 rfl rfl (fun c17 => ?_) (fun c17 => ?_)
      case refine_2 => exact absurd c17 (by omega)
      exact VW.vret d_Engine_stampWrites_57 rfl (Nat.zero_le _) (Nat.zero_le _) ex_rf
    | succ w ih =>
      intro j hj
      have h17 : smI I (tX i + 80 + m) j (tX i) 17 = I (tX i) 17 := congrFun (smI_o (by omega) (by omega) (by omega) j) _
      have hv : smI I (tX i + 80 + m) j (tX i + 80 + m) (j : Int) = I (tX i + 80 + m) (j : Int) := congrFun (smI_o (by omega) (by omega) (by omega) j) _
      have h7 : smI I (tX i + 80 + m) j 1064 7 = I 1064 7 + 1 := (smI_e 7 j).trans (if_pos rfl)
      have h7' : up2 (smI I (tX i + 80 + m) j) 1070 (I (tX i + 80 + m) (j : Int)) (I 1064 7 + 1) 1064 7 = I 1064 7 + 1 := (up2_o _ _ _ _ (by decide)).trans h7
      have n9 := ih (j + 1) (by omega)
      have hb := hN.2.2.2.2 (j : Int) (by omega) (by omega)
      have e1 : (I (tX i + 80 + m) (j : Int)).tdiv 2001 = I (tX i + 80 + m) (j : Int) / 2001 := Int.tdiv_eq_ediv_of_nonneg hb.1
      rw [show ((j + 1 : Nat) : Int) = (j : Int) + 1 by omega] at n9
      clear ih
      refine VW.iload_n (pc' := 13) d_Engine_stampWrites_12 rfl rfl ?_
      refine VW.aload_n (pc' := 14) d_Engine_stampWrites_13 rfl rfl ?_
      refine VW.gI (ci := 8) (T := T8) (N := 19) (k := 17) (k' := 17) (pc' := 17) d_Engine_stampWrites_14 rfl lk_Engine_179 in8 rfl rfl rfl rfl (by first | exact hC.k 9 rfl | exact hC.k 10 rfl | exact hC.k 11 rfl | exact hC.k 12 rfl | exact hC.k 21 rfl | exact hC.k 22 rfl | exact hC.k 23 rfl | exact hx | exact hf.2) (by first | exact hC.p 15 rfl | exact hC.p 16 rfl | exact hC.p 18 rfl | exact hC.p 19 rfl | exact hC.p 20 rfl | exact hC.p 21 rfl | exact hC.p 30 rfl | exact h17 | exact hf.1 | exact hv | exact h7 | exact h7' | rfl) ?_
      refine VW.icmp_ge (tgt := 57) (pc' := 20) d_Engine_stampWrites_17 rfl rfl (fun c17 => ?_) (fun c17 => ?_)
      case refine_1 => exact absurd c17 (by omega)
      refine VW.aload_n (pc' := 21) d_Engine_stampWrites_20 rfl rfl ?_
      refine VW.gP (ci := 8) (T := T8) (N := 19) (k := 18) (k' := 18) (pc' := 24) d_Engine_stampWrites_21 rfl lk_Engine_182 in8 rfl rfl rfl rfl (by first | exact hC.k 9 rfl | exact hC.k 10 rfl | exact hC.k 11 rfl | exact hC.k 12 rfl | exact hC.k 21 rfl | exact hC.k 22 rfl | exact hC.k 23 rfl | exact hx | exact hf.2) (by first | exact hC.p 15 rfl | exact hC.p 16 rfl | exact hC.p 18 rfl | exact hC.p 19 rfl | exact hC.p 20 rfl | exact hC.p 21 rfl | exact hC.p 30 rfl | exact h17 | exact hf.1 | exact hv | exact h7 | exact h7' | rfl) ?_
      refine VW.iload_n (pc' := 25) d_Engine_stampWrites_24 rfl rfl ?_
      refine VW.ild (pc' := 26) d_Engine_stampWrites_25 rfl (by first | exact hC.k 9 rfl | exact hC.k 10 rfl | exact hC.k 11 rfl | exact hC.k 12 rfl | exact hC.k 21 rfl | exact hC.k 22 rfl | exact hC.k 23 rfl | exact hx | exact hf.2) (by omega) (by omega) (by first | exact hC.p 15 rfl | exact hC.p 16 rfl | exact hC.p 18 rfl | exact hC.p 19 rfl | exact hC.p 20 rfl | exact hC.p 21 rfl | exact hC.p 30 rfl | exact h17 | exact hf.1 | exact hv | exact h7 | exact h7' | rfl) ?_
      refine VW.istore_n (pc' := 27) d_Engine_stampWrites_26 rfl rfl ?_
      refine VW.aload_n (pc' := 28) d_Engine_stampWrites_27 rfl rfl ?_
      refine VW.gP (ci := 0) (T := T0) (N := 8) (k := 5) (k' := 5) (pc' := 31) d_Engine_stampWrites_28 rfl lk_Engine_36 in0 rfl rfl rfl rfl (by first | exact hC.k 9 rfl | exact hC.k 10 rfl | exact hC.k 11 rfl | exact hC.k 12 rfl | exact hC.k 21 rfl | exact hC.k 22 rfl | exact hC.k 23 rfl | exact hx | exact hf.2) (by first | exact hC.p 15 rfl | exact hC.p 16 rfl | exact hC.p 18 rfl | exact hC.p 19 rfl | exact hC.p 20 rfl | exact hC.p 21 rfl | exact hC.p 30 rfl | exact h17 | exact hf.1 | exact hv | exact h7 | exact h7' | rfl) ?_
      refine VW.iload_n (pc' := 32) d_Engine_stampWrites_31 rfl rfl ?_
      refine VW.aload_n (pc' := 33) d_Engine_stampWrites_32 rfl rfl ?_
      refine VW.gI (ci := 0) (T := T0) (N := 8) (k := 7) (k' := 7) (pc' := 36) d_Engine_stampWrites_33 rfl lk_Engine_74 in0 rfl rfl rfl rfl (by first | exact hC.k 9 rfl | exact hC.k 10 rfl | exact hC.k 11 rfl | exact hC.k 12 rfl | exact hC.k 21 rfl | exact hC.k 22 rfl | exact hC.k 23 rfl | exact hx | exact hf.2) (by first | exact hC.p 15 rfl | exact hC.p 16 rfl | exact hC.p 18 rfl | exact hC.p 19 rfl | exact hC.p 20 rfl | exact hC.p 21 rfl | exact hC.p 30 rfl | exact h17 | exact hf.1 | exact hv | exact h7 | exact h7' | rfl) ?_
      refine VW.iast (pc' := 37) d_Engine_stampWrites_36 rfl (by first | exact hC.k 9 rfl | exact hC.k 10 rfl | exact hC.k 11 rfl | exact hC.k 12 rfl | exact hC.k 21 rfl | exact hC.k 22 rfl | exact hC.k 23 rfl | exact hx | exact hf.2) (by omega) (by omega) ?_
      refine VW.aload_n (pc' := 38) d_Engine_stampWrites_37 rfl rfl ?_
      refine VW.gP (ci := 0) (T := T0) (N := 8) (k := 6) (k' := 6) (pc' := 41) d_Engine_stampWrites_38 rfl lk_Engine_39 in0 rfl rfl rfl rfl (by first | exact hC.k 9 rfl | exact hC.k 10 rfl | exact hC.k 11 rfl | exact hC.k 12 rfl | exact hC.k 21 rfl | exact hC.k 22 rfl | exact hC.k 23 rfl | exact hx | exact hf.2) (by first | exact hC.p 15 rfl | exact hC.p 16 rfl | exact hC.p 18 rfl | exact hC.p 19 rfl | exact hC.p 20 rfl | exact hC.p 21 rfl | exact hC.p 30 rfl | exact h17 | exact hf.1 | exact hv | exact h7 | exact h7' | rfl) ?_
      refine VW.iload_n (pc' := 42) d_Engine_stampWrites_41 rfl rfl ?_
      refine VW.sipush (pc' := 45) d_Engine_stampWrites_42 rfl (by decide) ?_
      refine VW.idiv (pc' := 46) d_Engine_stampWrites_45 rfl (by omega) (by omega) ?_
      rw [e1]
      refine VW.aload_n (pc' := 47) d_Engine_stampWrites_46 rfl rfl ?_
      refine VW.gI (ci := 0) (T := T0) (N := 8) (k := 7) (k' := 7) (pc' := 50) d_Engine_stampWrites_47 rfl lk_Engine_74 in0 rfl rfl rfl rfl (by first | exact hC.k 9 rfl | exact hC.k 10 rfl | exact hC.k 11 rfl | exact hC.k 12 rfl | exact hC.k 21 rfl | exact hC.k 22 rfl | exact hC.k 23 rfl | exact hx | exact hf.2) (by first | exact hC.p 15 rfl | exact hC.p 16 rfl | exact hC.p 18 rfl | exact hC.p 19 rfl | exact hC.p 20 rfl | exact hC.p 21 rfl | exact hC.p 30 rfl | exact h17 | exact hf.1 | exact hv | exact h7 | exact h7' | rfl) ?_
      refine VW.iast (pc' := 51) d_Engine_stampWrites_50 rfl (by first | exact hC.k 9 rfl | exact hC.k 10 rfl | exact hC.k 11 rfl | exact hC.k 12 rfl | exact hC.k 21 rfl | exact hC.k 22 rfl | exact hC.k 23 rfl | exact hx | exact hf.2) (by omega) (by omega) ?_
      refine VW.iinc (pc' := 54) d_Engine_stampWrites_51 rfl rfl rfl (by omega) ?_
      refine VW.goto (pc' := 12) d_Engine_stampWrites_54 rfl ?_
      refine VW.pick [0, 1, 2] ?_
      exact n9
  have l9 := loop (I (tX i) 17).toNat 0 (by omega)
  clear loop
  refine VW.aload_n (pc' := 1) d_Engine_stampWrites_0 rfl rfl ?_
  refine VW.dup (pc' := 2) d_Engine_stampWrites_1 rfl rfl ?_
  refine VW.gI (ci := 0) (T := T0) (N := 8) (k := 7) (k' := 7) (pc' := 5) d_Engine_stampWrites_2 rfl lk_Engine_74 in0 rfl rfl rfl rfl (by first | exact hC.k 9 rfl | exact hC.k 10 rfl | exact hC.k 11 rfl | exact hC.k 12 rfl | exact hC.k 21 rfl | exact hC.k 22 rfl | exact hC.k 23 rfl | exact hx) (by first | exact hC.p 15 rfl | exact hC.p 16 rfl | exact hC.p 18 rfl | exact hC.p 19 rfl | exact hC.p 20 rfl | exact hC.p 21 rfl | exact hC.p 30 rfl | rfl) ?_
  refine VW.iconst (pc' := 6) d_Engine_stampWrites_5 rfl (by decide) ?_
  refine VW.iadd (pc' := 7) d_Engine_stampWrites_6 rfl (by omega) ?_
  refine VW.pI (ci := 0) (T := T0) (N := 8) (k := 7) (k' := 7) (ty := ty0) (pc' := 10) d_Engine_stampWrites_7 rfl lk_Engine_74 in0 tk0 nm0 rfl rfl rfl rfl rfl rfl (by first | exact hC.k 9 rfl | exact hC.k 10 rfl | exact hC.k 11 rfl | exact hC.k 12 rfl | exact hC.k 21 rfl | exact hC.k 22 rfl | exact hC.k 23 rfl | exact hx) ?_
  refine VW.iconst (pc' := 11) d_Engine_stampWrites_10 rfl (by decide) ?_
  refine VW.istore_n (pc' := 12) d_Engine_stampWrites_11 rfl rfl ?_
  refine VW.pick [0, 1, 2] ?_
  exact l9
/-- records that have a writer -/
def LgR (I : IT) (g n : Nat) : Prop := ∀ k : Int, 0 ≤ k → k < n → (I (12000 + g) (k * 8) = 0 ∨ I (12000 + g) (k * 8) = 1 ∨ I (12000 + g) (k * 8) = 3) → 0 ≤ I (12000 + g) (k * 8 + 1) ∧ I (12000 + g) (k * 8 + 1) < 60
theorem lg_tx {i o : Nat} (hi : i < 60) (h : nTx i o) : ¬ nLg o := fun z => by
  unfold nTx tX at h
  unfold nLg at z
  omega
theorem TxV.fl {K' : KT} {P' : PT} {i l m : Nat} (h : TxV K P i l m) (hf : ∀ o, nTx i o → K' o = K o ∧ P' o = P o) : TxV K' P' i l m := by
  have e : ∀ j, j < 128 → K' (tX i + j) = K (tX i + j) ∧ P' (tX i + j) = P (tX i + j) := fun j hj => hf _ (by unfold nTx; omega)
  obtain ⟨a, b, c, d, l15, m15⟩ := h
  have e0 := e 0 (by decide)
  rw [Nat.add_zero] at e0
  have n : ∀ b j, b + j < 128 → K' (tX i + b + j) = K (tX i + b + j) := fun b j hj => by
    rw [Nat.add_assoc]; exact (e (b + j) hj).1
  refine ⟨?_, ?_, fun j j0 j1 => ?_, fun j j0 j1 => ?_, l15, m15⟩
  · unfold TxW at *
    rw [e0.1, e0.2, (e 13 (by decide)).1, n 40 l (by omega), n 60 l (by omega), n 80 m (by omega)]
    exact a
  · unfold RwW at *
    rw [(e 32 (by decide)).1, (e 32 (by decide)).2, (e 33 (by decide)).1]
    exact b
  · rw [n 40 j (by omega), n 60 j (by omega)]
    exact c j j0 j1
  · rw [n 80 j (by omega)]
    exact d j j0 j1
theorem ClW.lg {K' : KT} {P' : PT} {I' : IT} {g g' : Nat} (h : ClW K P) (hV : LgV K P g) (hV' : LgV K' P' g') (f : Fr nLg K P I K' P' I') : ClW K' P' := by
  have lo : ∀ o, cnK o = true → o < 2000 := fun o ho => by
    unfold cnK at ho
    obtain ⟨x, hx, e⟩ := List.any_eq_true.mp ho
    have e := Nat.eq_of_beq_eq_true e
    have all : KCL.all (fun x => decide (x.1 < 2000)) = true := by decide
    have := of_decide_eq_true (List.all_eq_true.mp all x hx)
    omega
  refine ⟨fun x hx => ?_, fun x hx => ?_⟩
  · by_cases hl : x.1 = 1192
    · have := h.1 x hx
      rw [hl] at this ⊢
      rw [hV'.1.1, ← this, hV.1.1]
    · have := lo _ (cn_K hx)
      rw [(f x.1 (fun z => by unfold nLg at z; omega)).1]
      exact h.1 x hx
  · by_cases hl : x.1 = 1192
    · have all : PCL.all (fun x => x.1 != 1192 || x.2.1 == 3 || x.2.1 == 4) = true := by decide
      have := List.all_eq_true.mp all x hx
      have h0 := h.2 x hx
      rw [hl] at this h0 ⊢
      have h3 := hV.1.2.2.1.1
      have h4 := hV.1.2.2.2.1
      have k3 := hV'.1.2.2.1.1
      have k4 := hV'.1.2.2.2.1
      have : x.2.1 = 3 ∨ x.2.1 = 4 := by simpa using this
      rcases this with q | q
      · rw [q] at h0 ⊢
        exact k3.trans (h3.symm.trans h0)
      · rw [q] at h0 ⊢
        exact k4.trans (h4.symm.trans h0)
    · have c : cnK x.1 = true := List.all_eq_true.mp cn_PK x hx
      have := lo _ c
      rw [(f x.1 (fun z => by unfold nLg at z; omega)).2.1]
      exact h.2 x hx
end
