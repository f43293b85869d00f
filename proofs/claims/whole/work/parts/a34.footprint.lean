section
variable {K : KT} {P : PT} {J I : IT}
theorem sp_Transaction_noteFootprint1 {x r w a b n f n2 o : Nat} {z : Int} (hG : TxW K P x r w a b n f n2) (h0 : I x 17 = n2 ∧ n2 ≤ 524288 ∧ 0 < n2) (ho : K o = none) : Sp m_Transaction_noteFootprint false ({ frames := 2, cells := 1, slots := 2 * n2, locals := 90 } : Room) (ex (upK K o (100, 2 * n2)) (up2 P x 18 (some o)) J (txFoot (cpyI I f 0 o 0 n2) x o z) (.inl none)) K P J I [vR (some x), vI z] := by
  refine Sp.ofV (by decide) (Or.inr rfl) rfl ?_
  have nx : x ≠ o := fun y => by have := hG.1; rw [y, ho] at this; cases this
  have x1 : upK K o (100, 2 * n2) x = some (8, 0) := (upK_o _ _ nx).trans hG.1
  have y1 : upK K o (100, 2 * n2) o = some (100, 2 * n2) := upK_eq _ _ _
  have i17 : cpyI I f 0 o 0 n2 x 17 = I x 17 := if_neg (fun q => nx q.1)
  have hex : ex (upK K o (100, 2 * n2)) (up2 P x 18 (some o)) J (txFoot (cpyI I f 0 o 0 n2) x o z) (.inl none) (.inl none) (upK K o (100, 2 * n2)) (up2 P x 18 (some o)) J (up2 (up2 (cpyI I f 0 o 0 n2) o (n2 : Int) z) x 17 ((n2 : Int) + 1)) := by
    unfold txFoot
    rw [i17, h0.1]
    exact ex_rf
  have e0 := h0.1
  refine VW.aload_n (pc' := 1) d_Transaction_noteFootprint_0 rfl rfl ?_
  refine VW.gI (ci := 8) (T := T8) (N := 19) (k := 17) (k' := 17) (pc' := 4) d_Transaction_noteFootprint_1 rfl lk_Transaction_96 in8 rfl rfl rfl rfl (by first | exact x1 | exact y1 | exact hG.1 | exact hG.2.2.2.2.2.2) (by first | exact hG.2.2.2.2.2.1 | exact e0 | exact (up2_o _ _ _ _ nx).trans (i17.trans e0) | exact i17.trans e0 | exact up2_eq _ _ _ _ | rfl) ?_
  refine VW.aload_n (pc' := 5) d_Transaction_noteFootprint_4 rfl rfl ?_
  refine VW.gP (ci := 8) (T := T8) (N := 19) (k := 18) (k' := 18) (pc' := 8) d_Transaction_noteFootprint_5 rfl lk_Transaction_38 in8 rfl rfl rfl rfl (by first | exact x1 | exact y1 | exact hG.1 | exact hG.2.2.2.2.2.2) (by first | exact hG.2.2.2.2.2.1 | exact e0 | exact (up2_o _ _ _ _ nx).trans (i17.trans e0) | exact i17.trans e0 | exact up2_eq _ _ _ _ | rfl) ?_
  refine VW.alen (pc' := 9) d_Transaction_noteFootprint_8 rfl (by first | exact x1 | exact y1 | exact hG.1 | exact hG.2.2.2.2.2.2) (by simp) (by omega) ?_
  refine VW.icmp_ne (tgt := 29) (pc' := 12) d_Transaction_noteFootprint_9 rfl rfl (fun c9 => ?_) (fun c9 => ?_)
  case refine_1 => exact absurd c9 (by omega)
  refine VW.aload_n (pc' := 13) d_Transaction_noteFootprint_12 rfl rfl ?_
  refine VW.aload_n (pc' := 14) d_Transaction_noteFootprint_13 rfl rfl ?_
  refine VW.gP (ci := 8) (T := T8) (N := 19) (k := 18) (k' := 18) (pc' := 17) d_Transaction_noteFootprint_14 rfl lk_Transaction_38 in8 rfl rfl rfl rfl (by first | exact x1 | exact y1 | exact hG.1 | exact hG.2.2.2.2.2.2) (by first | exact hG.2.2.2.2.2.1 | exact e0 | exact (up2_o _ _ _ _ nx).trans (i17.trans e0) | exact i17.trans e0 | exact up2_eq _ _ _ _ | rfl) ?_
  refine VW.iconst (pc' := 18) d_Transaction_noteFootprint_17 rfl (by decide) ?_
  refine VW.aload_n (pc' := 19) d_Transaction_noteFootprint_18 rfl rfl ?_
  refine VW.gI (ci := 8) (T := T8) (N := 19) (k := 17) (k' := 17) (pc' := 22) d_Transaction_noteFootprint_19 rfl lk_Transaction_96 in8 rfl rfl rfl rfl (by first | exact x1 | exact y1 | exact hG.1 | exact hG.2.2.2.2.2.2) (by first | exact hG.2.2.2.2.2.1 | exact e0 | exact (up2_o _ _ _ _ nx).trans (i17.trans e0) | exact i17.trans e0 | exact up2_eq _ _ _ _ | rfl) ?_
  refine VW.imul (pc' := 23) d_Transaction_noteFootprint_22 rfl (by omega) ?_
  refine VW.cS (pc' := 26) d_Transaction_noteFootprint_23 rfl ms_java_util_Arrays_copyOf lk_Transaction_88 rfl rfl rfl (by exact Nat.le_of_eq (Nat.zero_add _)) (by exact Nat.le_of_eq (Nat.zero_add _)) (sp_copyOf (N := 2 * n2) hG.2.2.2.2.2.2 ho (by omega) (by omega) (by omega)) rfl rfl ?_
  refine VW.pP (ci := 8) (T := T8) (N := 19) (k := 18) (k' := 18) (ty := ty8) (pc' := 29) d_Transaction_noteFootprint_26 rfl lk_Transaction_38 in8 tk8 nm8 rfl rfl rfl rfl rfl (by first | exact Or.inl ⟨_, rfl⟩ | exact Or.inr ⟨_, rfl⟩) (by first | exact x1 | exact y1 | exact hG.1 | exact hG.2.2.2.2.2.2) ?_
  refine VW.aload_n (pc' := 30) d_Transaction_noteFootprint_29 rfl rfl ?_
  refine VW.gP (ci := 8) (T := T8) (N := 19) (k := 18) (k' := 18) (pc' := 33) d_Transaction_noteFootprint_30 rfl lk_Transaction_38 in8 rfl rfl rfl rfl (by first | exact x1 | exact y1 | exact hG.1 | exact hG.2.2.2.2.2.2) (by first | exact hG.2.2.2.2.2.1 | exact e0 | exact (up2_o _ _ _ _ nx).trans (i17.trans e0) | exact i17.trans e0 | exact up2_eq _ _ _ _ | rfl) ?_
  refine VW.aload_n (pc' := 34) d_Transaction_noteFootprint_33 rfl rfl ?_
  refine VW.gI (ci := 8) (T := T8) (N := 19) (k := 17) (k' := 17) (pc' := 37) d_Transaction_noteFootprint_34 rfl lk_Transaction_96 in8 rfl rfl rfl rfl (by first | exact x1 | exact y1 | exact hG.1 | exact hG.2.2.2.2.2.2) (by first | exact hG.2.2.2.2.2.1 | exact e0 | exact (up2_o _ _ _ _ nx).trans (i17.trans e0) | exact i17.trans e0 | exact up2_eq _ _ _ _ | rfl) ?_
  refine VW.iload_n (pc' := 38) d_Transaction_noteFootprint_37 rfl rfl ?_
  refine VW.iast (pc' := 39) d_Transaction_noteFootprint_38 rfl (by first | exact x1 | exact y1 | exact hG.1 | exact hG.2.2.2.2.2.2) (by omega) (by omega) ?_
  refine VW.aload_n (pc' := 40) d_Transaction_noteFootprint_39 rfl rfl ?_
  refine VW.dup (pc' := 41) d_Transaction_noteFootprint_40 rfl rfl ?_
  refine VW.gI (ci := 8) (T := T8) (N := 19) (k := 17) (k' := 17) (pc' := 44) d_Transaction_noteFootprint_41 rfl lk_Transaction_96 in8 rfl rfl rfl rfl (by first | exact x1 | exact y1 | exact hG.1 | exact hG.2.2.2.2.2.2) (by first | exact hG.2.2.2.2.2.1 | exact e0 | exact (up2_o _ _ _ _ nx).trans (i17.trans e0) | exact i17.trans e0 | exact up2_eq _ _ _ _ | rfl) ?_
  refine VW.iconst (pc' := 45) d_Transaction_noteFootprint_44 rfl (by decide) ?_
  refine VW.iadd (pc' := 46) d_Transaction_noteFootprint_45 rfl (by omega) ?_
  refine VW.pI (ci := 8) (T := T8) (N := 19) (k := 17) (k' := 17) (ty := ty8) (pc' := 49) d_Transaction_noteFootprint_46 rfl lk_Transaction_96 in8 tk8 nm8 rfl rfl rfl rfl rfl rfl (by first | exact x1 | exact y1 | exact hG.1 | exact hG.2.2.2.2.2.2) ?_
  exact VW.vret d_Transaction_noteFootprint_49 rfl (by exact Nat.le_of_eq (Nat.zero_add _)) (by exact Nat.le_of_eq (Nat.zero_add _)) hex
/-- a footprint more, at the end -/
def FpD (I I' : IT) (i l m m' : Nat) (z : Int) : Prop := (∀ k, k ≠ 17 → I' (tX i) k = I (tX i) k) ∧ I' (tX i) 17 = I (tX i) 17 + 1 ∧ (I' (tX i + 13) = I (tX i + 13) ∧ I' (tX i + 33) = I (tX i + 33) ∧ I' (tX i + 40 + l) = I (tX i + 40 + l) ∧ I' (tX i + 60 + l) = I (tX i + 60 + l)) ∧ (∀ j, 0 ≤ j → j < I (tX i) 17 → I' (tX i + 80 + m') j = I (tX i + 80 + m) j) ∧ I' (tX i + 80 + m') (I (tX i) 17) = z
theorem footprint_ex {i l m : Nat} {z : Int} (hV : TxV K P i l m) (hN : TxN I i l m) (hz : 0 ≤ z ∧ z < 12006) (hb : I (tX i) 17 < 100000) : ∃ (m' c n : Nat) (K' : KT) (P' : PT) (I' : IT), (TxV K' P' i l m' ∧ TxN I' i l m') ∧ Fr (nTx i) K P I K' P' I' ∧ (c + m = m' ∧ n + pf m = pf m') ∧ FpD I I' i l m m' z ∧
    Sp m_Transaction_noteFootprint false ({ frames := 2, cells := c, slots := n, locals := 90 } : Room) (ex K' P' J I' (.inl none)) K P J I [vR (some (tX i)), vI z] := by
  obtain ⟨hG, hR, hf1, hf2, hl, hm⟩ := hV
  obtain ⟨h1, h2, h3, h4, h5⟩ := hN
  have e2 : (((8 * 2 ^ m : Nat)) : Int) = 8 * 2 ^ m := by simp
  have big : ((8 * 2 ^ m : Nat) : Int) ≤ 262144 := by
    have : (2 : Nat) ^ m ≤ 2 ^ 14 := Nat.pow_le_pow_right (by decide) (by omega)
    omega
  have pos : 1 ≤ (2 : Nat) ^ m := Nat.one_le_two_pow
  -- what a footprint leaves, at a heap with the array at the level q
  have fin : ∀ (q : Nat) (I0 : IT), q < 20 → I0 (tX i) = I (tX i) → (∀ o, nTx i o → o ≠ tX i + 80 + q → I0 o = I o) → (∀ j, 0 ≤ j → j < I (tX i) 17 → I0 (tX i + 80 + q) j = I (tX i + 80 + m) j) → I (tX i) 17 + 1 ≤ 8 * 2 ^ q → (q = 0 ∨ 4 * 2 ^ q ≤ I (tX i) 17) → TxN (txFoot I0 (tX i) (tX i + 80 + q) z) i l q ∧ FpD I (txFoot I0 (tX i) (tX i + 80 + q) z) i l m q z ∧ ∀ o, ¬ nTx i o → txFoot I0 (tX i) (tX i + 80 + q) z o = I0 o := by
    intro q I0 hq g1 g2 g3 g4 g5
    have f17 : txFoot I0 (tX i) (tX i + 80 + q) z (tX i) 17 = I (tX i) 17 + 1 := (up2_eq _ _ _ _).trans (by rw [g1])
    have fk : ∀ k, k ≠ 17 → txFoot I0 (tX i) (tX i + 80 + q) z (tX i) k = I (tX i) k := fun k hk => by
      unfold txFoot
      rw [up2_k _ _ _ _ hk, up2_o _ _ _ _ (by omega), g1]
    have fo : ∀ o, o ≠ tX i → o ≠ tX i + 80 + q → txFoot I0 (tX i) (tX i + 80 + q) z o = I0 o := fun o q1 q2 => funext (fun k => (up2_o _ _ _ _ q1).trans (up2_o _ _ _ _ q2))
    have fd : ∀ j, txFoot I0 (tX i) (tX i + 80 + q) z (tX i + 80 + q) j = if j = I (tX i) 17 then z else I0 (tX i + 80 + q) j := fun j => by
      unfold txFoot
      rw [up2_o _ _ _ _ (by omega), g1]
      by_cases h : j = I (tX i) 17
      · rw [if_pos h, h, up2_eq]
      · rw [if_neg h, up2_k _ _ _ _ h]
    have fn : ∀ o, nTx i o → o ≠ tX i → o ≠ tX i + 80 + q → txFoot I0 (tX i) (tX i + 80 + q) z o = I o := fun o q0 q1 q2 => (fo o q1 q2).trans (g2 o q0 q2)
    have n13 := fn (tX i + 13) (by unfold nTx; omega) (by omega) (by omega)
    have n33 := fn (tX i + 33) (by unfold nTx; omega) (by omega) (by omega)
    have n40 := fn (tX i + 40 + l) (by unfold nTx; omega) (by omega) (by omega)
    have n60 := fn (tX i + 60 + l) (by unfold nTx; omega) (by omega) (by omega)
    refine ⟨⟨by rw [fk 14 (by decide)]; exact h1, by rw [f17]; omega, by rw [fk 14 (by decide), n40]; exact h3, by rw [fk 13 (by decide)]; exact h4, fun j j0 j1 => ?_⟩, ⟨fk, f17, ⟨n13, n33, n40, n60⟩, fun j j0 j1 => ?_, ?_⟩, fun o ho => fo o (fun y => ho (by unfold nTx; omega)) (fun y => ho (by unfold nTx; omega))⟩
    · rw [f17] at j1
      rw [fd]
      by_cases h : j = I (tX i) 17
      · rw [if_pos h]; exact hz
      · rw [if_neg h, g3 j j0 (by omega)]; exact h5 j j0 (by omega)
    · rw [fd, if_neg (by omega)]; exact g3 j j0 j1
    · rw [fd, if_pos rfl]
  by_cases hfull : I (tX i) 17 < 8 * 2 ^ m
  · have sp := sp_Transaction_noteFootprint0 (J := J) (I := I) (z := z) hG (by omega)
    obtain ⟨q1, q2, q3⟩ := fin m I (by omega) rfl (fun _ _ _ => rfl) (fun _ _ _ => rfl) (by omega) (h2.2.2.2.imp id (fun w => by omega))
    exact ⟨m, 0, 0, K, P, _, ⟨⟨hG, hR, hf1, hf2, hl, hm⟩, q1⟩, fun o ho => ⟨rfl, rfl, q3 o ho⟩, ⟨by omega, by omega⟩, q2, sp⟩
  · have em : I (tX i) 17 = ((8 * 2 ^ m : Nat) : Int) := by omega
    have m14 : m < 14 := lev_lt (z := I (tX i) 17) (by omega) (by omega)
    have ho := hf2 (m + 1) (by omega) (by omega)
    have sp := sp_Transaction_noteFootprint1 (J := J) (I := I) (o := tX i + 80 + (m + 1)) (z := z) hG (by omega) ho
    have e3 : 2 * (8 * 2 ^ m) = 8 * 2 ^ (m + 1) := by rw [Nat.pow_succ]; omega
    rw [e3] at sp
    let I0 : IT := cpyI I (tX i + 80 + m) 0 (tX i + 80 + (m + 1)) 0 ((8 * 2 ^ m : Nat) : Int)
    have eo : ∀ o, o ≠ tX i + 80 + (m + 1) → I0 o = I o := fun o q => funext (fun k => if_neg (fun y => q y.1))
    have e4 : ((8 * 2 ^ (m + 1) : Nat) : Int) = 8 * 2 ^ (m + 1) := by simp
    have e5 : 2 * (8 * 2 ^ m) = 8 * 2 ^ (m + 1) := e3
    obtain ⟨q1, q2, q3⟩ := fin (m + 1) I0 (by omega) (eo _ (by omega)) (fun o _ q => eo o q) (fun j j0 j1 => by
      refine (if_pos ⟨rfl, j0, by omega⟩).trans ?_
      rw [show 0 + (j - 0) = j by omega]) (by omega) (Or.inr (by omega))
    have kk : ∀ {o : Nat} {v : Nat × Nat}, K o = some v → upK K (tX i + 80 + (m + 1)) (100, 8 * 2 ^ (m + 1)) o = some v := fun h => (upK_o _ _ (fun y => by rw [y, ho] at h; cases h)).trans h
    have pp : ∀ o k, (o ≠ tX i ∨ k ≠ 18) → up2 P (tX i) 18 (some (tX i + 80 + (m + 1))) o k = P o k := fun o k q => if_neg (fun y => q.elim (fun w => w y.1) (fun w => w y.2))
    refine ⟨m + 1, 1, 8 * 2 ^ (m + 1), _, _, _, ⟨⟨⟨kk hG.1, (pp _ _ (Or.inr (by decide))).trans hG.2.1, ⟨(pp _ _ (Or.inr (by decide))).trans hG.2.2.1.1, kk hG.2.2.1.2⟩, ⟨(pp _ _ (Or.inr (by decide))).trans hG.2.2.2.1.1, kk hG.2.2.2.1.2⟩, ⟨(pp _ _ (Or.inr (by decide))).trans hG.2.2.2.2.1.1, kk hG.2.2.2.2.1.2⟩, up2_eq _ _ _ _, upK_eq _ _ _⟩, ⟨kk hR.1, (pp _ _ (Or.inl (by omega))).trans hR.2.1, kk hR.2.2⟩, fun j j1 j2 => ⟨?_, ?_⟩, fun j j1 j2 => (upK_o _ _ (by omega)).trans (hf2 j (by omega) j2), hl, by omega⟩, q1⟩, fun o ho2 => ⟨upK_o _ _ (fun y => ho2 (by unfold nTx; omega)), funext (fun k => pp o k (Or.inl (fun y => ho2 (by unfold nTx; omega)))), (q3 o ho2).trans (eo o (fun y => ho2 (by unfold nTx; omega)))⟩, ⟨by omega, ?_⟩, q2, sp⟩
    · by_cases e : tX i + 40 + j = tX i + 80 + (m + 1)
      · omega
      · exact (upK_o _ _ e).trans (hf1 j j1 j2).1
    · by_cases e : tX i + 60 + j = tX i + 80 + (m + 1)
      · omega
      · exact (upK_o _ _ e).trans (hf1 j j1 j2).2
    · have := pf_up m; omega
end
