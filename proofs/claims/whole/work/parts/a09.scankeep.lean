section
variable {K : KT} {P : PT} {J I : IT}
/-- a place of a table is used, and its row is seen -/
def scPl (I : IT) (s v a : Nat) (o t k : Int) : Prop := I a ((t * 8 + k) * 4) ≠ -2147483648 ∧ scSee I s v a o t ((t * 8 + k) * 4) = 1
noncomputable def scanC (I : IT) (s v a : Nat) (o t : Int) (w : Nat) : Nat → List (List Int)
  | 0 => []
  | k + 1 => if bI (scPl I s v a o t k) = 1 then scanC I s v a o t w k ++ [rowAt I a ((t * 8 + k) * 4) w] else scanC I s v a o t w k
theorem scanC_yes {s v a w k : Nat} {o t : Int} (h : scPl I s v a o t k) : scanC I s v a o t w (k + 1) = scanC I s v a o t w k ++ [rowAt I a ((t * 8 + k) * 4) w] := if_pos (bI1 h)
theorem scanC_no {s v a w k : Nat} {o t : Int} (h : ¬ scPl I s v a o t k) : scanC I s v a o t w (k + 1) = scanC I s v a o t w k := if_neg (by rw [bI0 h]; decide)
theorem scanC_len {s v a w : Nat} {o t : Int} : ∀ k : Nat, (scanC I s v a o t w k).length ≤ k := by
  intro k
  induction k with
  | zero => exact Nat.le_refl _
  | succ k ih =>
    by_cases h : scPl I s v a o t k
    · rw [scanC_yes h, List.length_append, List.length_singleton]; omega
    · rw [scanC_no h]; omega
def SIc (I T : IT) (s v a eo co : Nat) (o t : Int) (w k : Nat) : Prop := RelR T eo co w (scanC I s v a o t w k) ∧ ∀ q, q ≠ eo → q ≠ co → T q = I q
theorem sp_Evaluator_scanInto {x s wi ck d tg ru v r a eo co w : Nat} {o t : Int} (hx : K x = some (1, 0)) (hs : P x 0 = some s) (hG : ScW K P s wi ck d tg ru v) (hRw : RwW K P r a) (hO : ReW K P eo co 5120) (hd1 : co ≠ a ∧ co ≠ v) (h0 : RelR I eo co w []) (hw : w ≤ 4) (ht : 0 ≤ t ∧ t < 6) (hc : 0 ≤ I s 6 ∧ I s 6 ≤ 12) (hd : ∀ j : Int, 0 ≤ j → j < I s 6 → 0 ≤ I v (j * 5 + 2) ∧ I v (j * 5 + 2) < 4) : Sp m_Evaluator_scanInto false (rmv 5 160) (exU K P J (.inl none) (fun T => RelR T eo co w (scanC I s v a o t w 8) ∧ ∀ q, q ≠ eo → q ≠ co → T q = I q)) K P J I [vR (some x), vR (some eo), vI t, vR (some r), vI o] := by
  refine Sp.ofV (by decide) (Or.inr rfl) rfl ?_
  have n1 : s ≠ eo := fun z => by have := hG.1.symm.trans (z ▸ hO.1); cases this
  have n2 : s ≠ co := fun z => by have := hG.1.symm.trans (z ▸ hO.2.2); cases this
  have n3 : v ≠ eo := fun z => by have := hG.2.2.2.2.2.2.2.symm.trans (z ▸ hO.1); cases this
  have n4 : a ≠ eo := fun z => by have := hRw.2.2.symm.trans (z ▸ hO.1); cases this
  have loop : ∀ (l k : Nat) (T : IT), k + l = 8 → SIc I T s v a eo co o t w k → VW m_Evaluator_scanInto false (rmv 5 160) (exU K P J (.inl none) (fun T => RelR T eo co w (scanC I s v a o t w 8) ∧ ∀ q, q ≠ eo → q ≠ co → T q = I q)) K P J T 0 0 6 [(0, vR (some x)), (1, vR (some eo)), (2, vI t), (3, vR (some r)), (4, vI o), (5, vI (t * 8 + (k : Int)))] [] := by
    intro l
    induction l with
    | zero =>
      intro k T hk h
      have ek : k = 8 := by omega
      subst ek
      refine VW.iload (pc' := 8) d_Evaluator_scanInto_6 rfl rfl ?_
      refine VW.iload_n (pc' := 9) d_Evaluator_scanInto_8 rfl rfl ?_
      refine VW.iconst (pc' := 10) d_Evaluator_scanInto_9 rfl (by decide) ?_
      refine VW.iadd (pc' := 11) d_Evaluator_scanInto_10 rfl (by omega) ?_
      refine VW.bipush (pc' := 13) d_Evaluator_scanInto_11 rfl (by decide) ?_
      refine VW.imul (pc' := 14) d_Evaluator_scanInto_13 rfl (by omega) ?_
      refine VW.icmp_ge (tgt := 70) (pc' := 17) d_Evaluator_scanInto_14 rfl rfl (fun c14 => ?_) (fun c14 => ?_)
      · exact VW.vret d_Evaluator_scanInto_70 rfl (Nat.zero_le _) (Nat.zero_le _) (⟨rfl, rfl, rfl, rfl, h⟩)
      · exfalso; omega
    | succ l ih =>
      intro k T hk h
      have ts : T s = I s := h.2 s n1 n2
      have tv : T v = I v := h.2 v n3 hd1.2.symm
      have ta : T a = I a := h.2 a n4 hd1.1.symm
      have to1 : T eo 1 = _ := h.1.2.1
      have to2 : T eo 2 = w := h.1.1
      have fl := scanC_len (I := I) (s := s) (v := v) (a := a) (o := o) (t := t) (w := w) k
      have m2 := relMul (w := w) (m := (scanC I s v a o t w k).length) (by omega) (by omega)
      have g1 : T eo 1 < 512 := by rw [to1]; omega
      have g2 : 0 ≤ T eo 1 * T eo 2 ∧ 0 ≤ T eo 2 ∧ T eo 1 * T eo 2 + T eo 2 ≤ (5120 : Nat) ∧ (5120 : Nat) ≤ 524288 ∧ 0 ≤ T eo 1 := by rw [to1, to2]; omega
      have g3 : 0 ≤ (t * 8 + (k : Int)) * 4 ∧ (t * 8 + (k : Int)) * 4 + T eo 2 ≤ (192 : Nat) := by rw [to2]; omega
      have see : scSee T s v a o t ((t * 8 + (k : Int)) * 4) = scSee I s v a o t ((t * 8 + (k : Int)) * 4) := by
        unfold scSee scHid
        rw [ts, tv, ta]
      have hc' : 0 ≤ T s 6 ∧ T s 6 ≤ 12 := by rw [ts]; exact hc
      have hd' : ∀ j : Int, 0 ≤ j → j < T s 6 → 0 ≤ T v (j * 5 + 2) ∧ T v (j * 5 + 2) < 4 := by rw [ts, tv]; exact hd
      have k1 : t * 8 + ((k + 1 : Nat) : Int) = t * 8 + (k : Int) + 1 := by omega
      have sk : ¬ scPl I s v a o t k → VW m_Evaluator_scanInto false (rmv 5 160) (exU K P J (.inl none) (fun T => RelR T eo co w (scanC I s v a o t w 8) ∧ ∀ q, q ≠ eo → q ≠ co → T q = I q)) K P J T 0 0 6 [(0, vR (some x)), (1, vR (some eo)), (2, vI t), (3, vR (some r)), (4, vI o), (5, vI (t * 8 + (k : Int) + 1))] [] := fun z => by
        have h9 := ih (k + 1) T (by omega) ⟨by rw [scanC_no z]; exact h.1, h.2⟩
        rw [k1] at h9; exact h9
      have ad : scPl I s v a o t k → VW m_Evaluator_scanInto false (rmv 5 160) (exU K P J (.inl none) (fun T => RelR T eo co w (scanC I s v a o t w 8) ∧ ∀ q, q ≠ eo → q ≠ co → T q = I q)) K P J (up2 (cpyI T a ((t * 8 + (k : Int)) * 4) co (T eo 1 * T eo 2) (T eo 2)) eo 1 (T eo 1 + 1)) 0 0 6 [(0, vR (some x)), (1, vR (some eo)), (2, vI t), (3, vR (some r)), (4, vI o), (5, vI (t * 8 + (k : Int) + 1))] [] := fun z => by
        have r := reAdd_R (I := T) (d := a) (A := (t * 8 + (k : Int)) * 4) hO.ne h.1
        rw [rowAt_congr (I := I) (S := T) (a' := a) (a := a) (b := (t * 8 + (k : Int)) * 4) (b' := (t * 8 + (k : Int)) * 4) (fun c _ _ => by rw [ta]), ← scanC_yes z] at r
        have h9 := ih (k + 1) _ (by omega) ⟨r, fun q q1 q2 => (reAdd_o q1 q2).trans (h.2 q q1 q2)⟩
        rw [k1] at h9; exact h9
      have ea : T a ((t * 8 + (k : Int)) * 4) = I a ((t * 8 + (k : Int)) * 4) := by rw [ta]
      clear ih
      refine VW.iload (pc' := 8) d_Evaluator_scanInto_6 rfl rfl ?_
      refine VW.iload_n (pc' := 9) d_Evaluator_scanInto_8 rfl rfl ?_
      refine VW.iconst (pc' := 10) d_Evaluator_scanInto_9 rfl (by decide) ?_
      refine VW.iadd (pc' := 11) d_Evaluator_scanInto_10 rfl (by omega) ?_
      refine VW.bipush (pc' := 13) d_Evaluator_scanInto_11 rfl (by decide) ?_
      refine VW.imul (pc' := 14) d_Evaluator_scanInto_13 rfl (by omega) ?_
      refine VW.icmp_ge (tgt := 70) (pc' := 17) d_Evaluator_scanInto_14 rfl rfl (fun c14 => ?_) (fun c14 => ?_)
      · exfalso; omega
      · refine VW.iload (pc' := 19) d_Evaluator_scanInto_17 rfl rfl ?_
        refine VW.cS (pc' := 22) d_Evaluator_scanInto_19 rfl ms_Rows_startOf lk_Evaluator_94 rfl rfl rfl (Nat.le_refl _) (Nat.le_refl _) (sp_Rows_startOf (by omega)) rfl rfl ?_
        refine VW.istore (pc' := 24) d_Evaluator_scanInto_22 rfl rfl ?_
        refine VW.aload_n (pc' := 25) d_Evaluator_scanInto_24 rfl rfl ?_
        refine VW.iload (pc' := 27) d_Evaluator_scanInto_25 rfl rfl ?_
        refine VW.cV (ci := 6) (T := T6) (N := 1) (pc' := 30) d_Evaluator_scanInto_27 rfl mv_Rows_keyAt lk_Evaluator_100 rfl (by first | exact hO.1 | exact hO.2.2 | exact hE.1 | exact hE.2.2 | exact hRw.1 | exact hRw.2.2 | exact hG.1 | assumption) rfl rfl rfl (Nat.le_refl _) (Nat.le_refl _) (sp_Rows_keyAt hRw (by omega)) rfl rfl ?_
        refine VW.ldc (pc' := 32) (z := -2147483648) d_Evaluator_scanInto_30 rfl lk_Evaluator_103 (by decide) (by decide) ?_
        refine VW.icmp_eq (tgt := 64) (pc' := 35) d_Evaluator_scanInto_32 rfl rfl (fun c32 => ?_) (fun c32 => ?_)
        · refine VW.iinc (pc' := 67) d_Evaluator_scanInto_64 rfl rfl rfl (by omega) ?_
          refine VW.goto (pc' := 6) d_Evaluator_scanInto_67 rfl ?_
          refine VW.pick [0, 1, 2, 3, 4, 5] ?_
          first | exact sk (fun z => z.1 (ea ▸ c32)) | exact sk (fun z => by have := see.trans z.2; omega) | exact ad ⟨fun z => c32 (ea.trans z), by have := see; have h8 : scSee I s v a o t ((t * 8 + (k : Int)) * 4) = 0 ∨ scSee I s v a o t ((t * 8 + (k : Int)) * 4) = 1 := bI_01 _; omega⟩
        · refine VW.aload_n (pc' := 36) d_Evaluator_scanInto_35 rfl rfl ?_
          refine VW.gP (ci := 1) (T := T1) (N := 7) (k := 0) (k' := 0) (pc' := 39) d_Evaluator_scanInto_36 rfl lk_Evaluator_28 in1 rfl rfl rfl rfl (by first | exact hO.1 | exact hO.2.2 | exact hE.1 | exact hE.2.2 | exact hRw.1 | exact hRw.2.2 | exact hG.1 | assumption) (by first | exact hO.2.1 | exact hE.2.1 | exact hRw.2.1 | exact hs | exact tm | exact tw | rfl) ?_
          refine VW.iload (pc' := 41) d_Evaluator_scanInto_39 rfl rfl ?_
          refine VW.iload_n (pc' := 42) d_Evaluator_scanInto_41 rfl rfl ?_
          refine VW.aload_n (pc' := 43) d_Evaluator_scanInto_42 rfl rfl ?_
          refine VW.gP (ci := 6) (T := T6) (N := 1) (k := 0) (k' := 0) (pc' := 46) d_Evaluator_scanInto_43 rfl lk_Evaluator_104 in6 rfl rfl rfl rfl (by first | exact hO.1 | exact hO.2.2 | exact hE.1 | exact hE.2.2 | exact hRw.1 | exact hRw.2.2 | exact hG.1 | assumption) (by first | exact hO.2.1 | exact hE.2.1 | exact hRw.2.1 | exact hs | exact tm | exact tw | rfl) ?_
          refine VW.iload (pc' := 48) d_Evaluator_scanInto_46 rfl rfl ?_
          refine VW.cV (ci := 7) (T := T7) (N := 8) (pc' := 51) d_Evaluator_scanInto_48 rfl mv_Schema_isSeen lk_Evaluator_107 rfl (by first | exact hO.1 | exact hO.2.2 | exact hE.1 | exact hE.2.2 | exact hRw.1 | exact hRw.2.2 | exact hG.1 | assumption) rfl rfl rfl (Nat.le_refl _) (Nat.le_refl _) (sp_Schema_isSeen hG hRw.2.2 hc' hd' (by omega)) rfl rfl ?_
          refine VW.if_eq (tgt := 64) (pc' := 54) d_Evaluator_scanInto_51 rfl rfl (fun c51 => ?_) (fun c51 => ?_)
          · try have e51 := bIe c51
            refine VW.iinc (pc' := 67) d_Evaluator_scanInto_64 rfl rfl rfl (by omega) ?_
            refine VW.goto (pc' := 6) d_Evaluator_scanInto_67 rfl ?_
            refine VW.pick [0, 1, 2, 3, 4, 5] ?_
            first | exact sk (fun z => z.1 (ea ▸ c32)) | exact sk (fun z => by have := see.trans z.2; omega) | exact ad ⟨fun z => c32 (ea.trans z), by have := see; have h8 : scSee I s v a o t ((t * 8 + (k : Int)) * 4) = 0 ∨ scSee I s v a o t ((t * 8 + (k : Int)) * 4) = 1 := bI_01 _; omega⟩
          · try have e51 := bIn c51
            refine VW.aload_n (pc' := 55) d_Evaluator_scanInto_54 rfl rfl ?_
            refine VW.aload_n (pc' := 56) d_Evaluator_scanInto_55 rfl rfl ?_
            refine VW.gP (ci := 6) (T := T6) (N := 1) (k := 0) (k' := 0) (pc' := 59) d_Evaluator_scanInto_56 rfl lk_Evaluator_104 in6 rfl rfl rfl rfl (by first | exact hO.1 | exact hO.2.2 | exact hE.1 | exact hE.2.2 | exact hRw.1 | exact hRw.2.2 | exact hG.1 | assumption) (by first | exact hO.2.1 | exact hE.2.1 | exact hRw.2.1 | exact hs | exact tm | exact tw | rfl) ?_
            refine VW.iload (pc' := 61) d_Evaluator_scanInto_59 rfl rfl ?_
            refine VW.cV (ci := 5) (T := T5) (N := 3) (pc' := 64) d_Evaluator_scanInto_61 rfl mv_Relation_add lk_Evaluator_113 rfl (by first | exact hO.1 | exact hO.2.2 | exact hE.1 | exact hE.2.2 | exact hRw.1 | exact hRw.2.2 | exact hG.1 | assumption) rfl rfl rfl (Nat.le_refl _) (Nat.le_refl _) (sp_Relation_add hO g1 g2 hRw.2.2 g3) rfl rfl ?_
            refine VW.iinc (pc' := 67) d_Evaluator_scanInto_64 rfl rfl rfl (by omega) ?_
            refine VW.goto (pc' := 6) d_Evaluator_scanInto_67 rfl ?_
            refine VW.pick [0, 1, 2, 3, 4, 5] ?_
            first | exact sk (fun z => z.1 (ea ▸ c32)) | exact sk (fun z => by have := see.trans z.2; omega) | exact ad ⟨fun z => c32 (ea.trans z), by have := see; have h8 : scSee I s v a o t ((t * 8 + (k : Int)) * 4) = 0 ∨ scSee I s v a o t ((t * 8 + (k : Int)) * 4) = 1 := bI_01 _; omega⟩
  have l := loop 8 0 I (by omega) ⟨h0, fun _ _ _ => rfl⟩
  rw [show t * 8 + ((0 : Nat) : Int) = t * 8 by omega] at l
  clear loop
  refine VW.iload_n (pc' := 1) d_Evaluator_scanInto_0 rfl rfl ?_
  refine VW.bipush (pc' := 3) d_Evaluator_scanInto_1 rfl (by decide) ?_
  refine VW.imul (pc' := 4) d_Evaluator_scanInto_3 rfl (by omega) ?_
  refine VW.istore (pc' := 6) d_Evaluator_scanInto_4 rfl rfl ?_
  refine VW.nrm ?_
  exact l
/-- k rows are kept -/
def KIc (I T : IT) (eo co w : Nat) (s : Int) (L : List (List Int)) (k : Nat) : Prop := seg T co 0 (wk s w) k = (L.take k).map (keepR s w) ∧ ∀ q, q ≠ co → T q = I q
def KCc (I T : IT) (eo co w : Nat) (s : Int) (L : List (List Int)) (k c : Nat) (x : List Int) : Prop := KIc I T eo co w s L k ∧ rowAt T co ((k : Int) * (wk s w : Int)) (wk s c) = keepR s c x
theorem KCc.no {T : IT} {eo co w k c : Nat} {s : Int} {L : List (List Int)} {x : List Int} (h : KCc I T eo co w s L k c x) (hb : ¬ bitIn s c) : KCc I T eo co w s L k (c + 1) x := ⟨h.1, by rw [wk_no hb, keepR_no hb]; exact h.2⟩
theorem KCc.yes {T : IT} {eo co w k c : Nat} {s : Int} {L : List (List Int)} {x : List Int} {v : Int} (h : KCc I T eo co w s L k c x) (hb : bitIn s c) (hv : nth x (c : Int) = v) : KCc I (up2 T co ((k : Int) * (wk s w : Int) + (wk s c : Int)) v) eo co w s L k (c + 1) x := by
  obtain ⟨⟨h1, h2⟩, h3⟩ := h
  refine ⟨⟨?_, fun q hq => (funext (fun z => up2_o _ _ _ _ hq)).trans (h2 q hq)⟩, ?_⟩
  · rw [← h1]
    refine seg_congr (fun q q0 q1 => up2_k _ _ _ _ ?_)
    rw [Int.mul_comm] at q1
    omega
  · rw [wk_yes hb, keepR_yes hb, rowAt_succ, up2_eq, hv, ← h3]
    congr 1
    exact rowAt_congr (fun q q0 q1 => up2_k _ _ _ _ (by omega))
theorem KCc.row {T : IT} {eo co w k : Nat} {s : Int} {L : List (List Int)} {x : List Int} (h : KCc I T eo co w s L k w x) (hk : L[k]? = some x) : KIc I T eo co w s L (k + 1) := by
  obtain ⟨⟨h1, h2⟩, h3⟩ := h
  refine ⟨?_, h2⟩
  rw [seg_succ, take_snoc hk, List.map_append, h1, Int.zero_add, Int.mul_comm, h3]; rfl
theorem sp_Evaluator_keepInto {v eo co ei ci w : Nat} {s : Int} {L : List (List Int)} (hA : ReA K P eo co ei ci) (hR : RelR I ei ci w L) (h0 : RelR I eo co (wk s w) []) (hw : w ≤ 10) (hL : L.length ≤ 512) (hs9 : 0 ≤ s ∧ s < 2147483648) : Sp m_Evaluator_keepInto false (rmv 2 90) (exU K P J (.inl none) (fun T => RelR T eo co (wk s w) (keepL s w L) ∧ ∀ q, q ≠ eo → q ≠ co → T q = I q)) K P J I [vR (some v), vR (some eo), vR (some ei), vI s] := by
  refine Sp.ofV (by decide) (Or.inr rfl) rfl ?_
  obtain ⟨hO, hE, ne, nc⟩ := id hA
  have nei : ei ≠ co := hE.ne2 hO
  have neo : eo ≠ co := hO.ne
  have wl := wk_le (s := s) w
  have loop : ∀ (l k : Nat) (T : IT), k + l = L.length → KIc I T eo co w s L k → VW m_Evaluator_keepInto false (rmv 2 90) (exU K P J (.inl none) (fun T => RelR T eo co (wk s w) (keepL s w L) ∧ ∀ q, q ≠ eo → q ≠ co → T q = I q)) K P J T 0 0 3 [(0, vR (some v)), (1, vR (some eo)), (2, vR (some ei)), (3, vI s), (4, vI (k : Int))] [] := by
    intro l
    induction l with
    | zero =>
      intro k T hk h
      have ek : k = L.length := by omega
      subst ek
      have te : T ei = I ei := h.2 ei nei
      have tm : T ei 1 = L.length := by rw [te]; exact hR.2.1
      have hfin : RelR (up2 T eo 1 (L.length : Int)) eo co (wk s w) (keepL s w L) := by
        have hl : (keepL s w L).length = L.length := List.length_map _
        refine ⟨(up2_k _ _ _ _ (by decide)).trans ((congrFun (h.2 eo neo) 2).trans h0.1), (up2_eq _ _ _ _).trans (by rw [hl]), ?_⟩
        rw [hl, seg_congr (I := T) (S := up2 T eo 1 (L.length : Int)) (a' := co) (a := co) (b := 0) (b' := 0) (fun q _ _ => up2_o _ _ _ _ neo.symm), h.1, List.take_length]; rfl
      have hfr : ∀ q, q ≠ eo → q ≠ co → up2 T eo 1 (L.length : Int) q = I q := fun q q1 q2 => (funext (fun z => up2_o _ _ _ _ q1)).trans (h.2 q q2)
      refine VW.iload (pc' := 5) d_Evaluator_keepInto_3 rfl rfl ?_
      refine VW.aload_n (pc' := 6) d_Evaluator_keepInto_5 rfl rfl ?_
      refine VW.gI (ci := 5) (T := T5) (N := 3) (k := 1) (k' := 1) (pc' := 9) d_Evaluator_keepInto_6 rfl lk_Evaluator_61 in5 rfl rfl rfl rfl (by first | exact hO.1 | exact hO.2.2 | exact hE.1 | exact hE.2.2 | exact hRw.1 | exact hRw.2.2 | exact hG.1 | assumption) (by first | exact hO.2.1 | exact hE.2.1 | exact hRw.2.1 | exact hs | exact tm | exact tw | rfl) ?_
      refine VW.icmp_ge (tgt := 72) (pc' := 12) d_Evaluator_keepInto_9 rfl rfl (fun c9 => ?_) (fun c9 => ?_)
      · refine VW.aload_n (pc' := 73) d_Evaluator_keepInto_72 rfl rfl ?_
        refine VW.aload_n (pc' := 74) d_Evaluator_keepInto_73 rfl rfl ?_
        refine VW.gI (ci := 5) (T := T5) (N := 3) (k := 1) (k' := 1) (pc' := 77) d_Evaluator_keepInto_74 rfl lk_Evaluator_61 in5 rfl rfl rfl rfl (by first | exact hO.1 | exact hO.2.2 | exact hE.1 | exact hE.2.2 | exact hRw.1 | exact hRw.2.2 | exact hG.1 | assumption) (by first | exact hO.2.1 | exact hE.2.1 | exact hRw.2.1 | exact hs | exact tm | exact tw | rfl) ?_
        refine VW.pI (ci := 5) (T := T5) (N := 3) (k := 1) (k' := 1) (ty := ty5) (pc' := 80) d_Evaluator_keepInto_77 rfl lk_Evaluator_61 in5 tk5 nm5 rfl rfl rfl rfl rfl rfl (by first | exact hO.1 | exact hO.2.2 | exact hE.1 | exact hE.2.2 | exact hRw.1 | exact hRw.2.2 | exact hG.1 | assumption) ?_
        exact VW.vret d_Evaluator_keepInto_80 rfl (Nat.zero_le _) (Nat.zero_le _) (⟨rfl, rfl, rfl, rfl, hfin, hfr⟩)
      · exfalso; omega
    | succ l ih =>
      intro k T hk h
      have hrow := hR.row (k := k) (by omega)
      rw [Int.mul_comm] at hrow
      have m3 := relMul (w := wk s w) (m := k) (by omega) (by omega)
      have inner : ∀ (l2 c : Nat) (T : IT), c + l2 = w → KCc I T eo co w s L k c (rowAt I ci ((k : Int) * (w : Int)) w) → VW m_Evaluator_keepInto false (rmv 2 90) (exU K P J (.inl none) (fun T => RelR T eo co (wk s w) (keepL s w L) ∧ ∀ q, q ≠ eo → q ≠ co → T q = I q)) K P J T 0 0 24 [(0, vR (some v)), (1, vR (some eo)), (2, vR (some ei)), (3, vI s), (4, vI (k : Int)), (5, vI ((k : Int) * (wk s w : Int) + (wk s c : Int))), (6, vI (c : Int))] [] := by
        intro l2
        induction l2 with
        | zero =>
          intro c T hc h
          have ec : c = w := by omega
          subst ec
          have te : T ei = I ei := h.1.2 ei nei
          have tw : T ei 2 = c := by rw [te]; exact hR.1
          have nx := ih (k + 1) T (by omega) (h.row hrow)
          rw [show ((k + 1 : Nat) : Int) = (k : Int) + 1 by omega] at nx
          refine VW.iload (pc' := 26) d_Evaluator_keepInto_24 rfl rfl ?_
          refine VW.aload_n (pc' := 27) d_Evaluator_keepInto_26 rfl rfl ?_
          refine VW.gI (ci := 5) (T := T5) (N := 3) (k := 2) (k' := 2) (pc' := 30) d_Evaluator_keepInto_27 rfl lk_Evaluator_54 in5 rfl rfl rfl rfl (by first | exact hO.1 | exact hO.2.2 | exact hE.1 | exact hE.2.2 | exact hRw.1 | exact hRw.2.2 | exact hG.1 | assumption) (by first | exact hO.2.1 | exact hE.2.1 | exact hRw.2.1 | exact hs | exact tm | exact tw | rfl) ?_
          refine VW.icmp_ge (tgt := 66) (pc' := 33) d_Evaluator_keepInto_30 rfl rfl (fun c30 => ?_) (fun c30 => ?_)
          · refine VW.iinc (pc' := 69) d_Evaluator_keepInto_66 rfl rfl rfl (by omega) ?_
            refine VW.goto (pc' := 3) d_Evaluator_keepInto_69 rfl ?_
            refine VW.pick [0, 1, 2, 3, 4] ?_
            exact nx
          · exfalso; omega
        | succ l2 ih2 =>
          intro c T hc h
          have te : T ei = I ei := h.1.2 ei nei
          have tci : T ci = I ci := h.1.2 ci nc.symm
          have tw : T ei 2 = w := by rw [te]; exact hR.1
          have m1 := relMul (w := w) (m := k) hw (by omega)
          have wc := wk_mono (s := s) c w (by omega)
          have cel : nth (rowAt I ci ((k : Int) * (w : Int)) w) (c : Int) = T ci ((k : Int) * T ei 2 + c) := by rw [nth_rowAt (by omega) (by omega), tci, tw]
          have i1 := ishr32 (a := s) (b := (c : Int)) ⟨by omega, by omega⟩ (by omega) (by omega)
          rw [show (c : Int).toNat = c by omega] at i1
          have d0 : 0 ≤ s / 2 ^ c := Int.ediv_nonneg hs9.1 (Int.le_of_lt (Int.pow_pos (by decide)))
          have d1 : s / 2 ^ c ≤ s := Int.ediv_le_self _ hs9.1
          have a1 := iand1 d0 (by omega)
          have c1 : ((c + 1 : Nat) : Int) = (c : Int) + 1 := by omega
          have sk : s / 2 ^ c % 2 = 0 → VW m_Evaluator_keepInto false (rmv 2 90) (exU K P J (.inl none) (fun T => RelR T eo co (wk s w) (keepL s w L) ∧ ∀ q, q ≠ eo → q ≠ co → T q = I q)) K P J T 0 0 24 [(0, vR (some v)), (1, vR (some eo)), (2, vR (some ei)), (3, vI s), (4, vI (k : Int)), (5, vI ((k : Int) * (wk s w : Int) + (wk s c : Int))), (6, vI ((c : Int) + 1))] [] := fun z => by
            have hb : ¬ bitIn s c := fun y => by unfold bitIn at y; omega
            have h9 := ih2 (c + 1) T (by omega) (h.no hb)
            rw [c1, wk_no hb] at h9; exact h9
          have ad : s / 2 ^ c % 2 ≠ 0 → VW m_Evaluator_keepInto false (rmv 2 90) (exU K P J (.inl none) (fun T => RelR T eo co (wk s w) (keepL s w L) ∧ ∀ q, q ≠ eo → q ≠ co → T q = I q)) K P J (up2 T co ((k : Int) * (wk s w : Int) + (wk s c : Int)) (T ci ((k : Int) * T ei 2 + c))) 0 0 24 [(0, vR (some v)), (1, vR (some eo)), (2, vR (some ei)), (3, vI s), (4, vI (k : Int)), (5, vI ((k : Int) * (wk s w : Int) + (wk s c : Int) + 1)), (6, vI ((c : Int) + 1))] [] := fun z => by
            have hb : bitIn s c := by unfold bitIn; omega
            have h9 := ih2 (c + 1) _ (by omega) (h.yes hb cel)
            rw [c1, wk_yes hb, show ((wk s c + 1 : Nat) : Int) = (wk s c : Int) + 1 by omega, ← Int.add_assoc] at h9; exact h9
          have wc2 : s / 2 ^ c % 2 ≠ 0 → (wk s c : Int) < wk s w := fun z => by
            have hb : bitIn s c := by unfold bitIn; omega
            have := wk_mono (s := s) (c + 1) w (by omega)
            rw [wk_yes hb] at this; omega
          clear ih2 ih
          refine VW.iload (pc' := 26) d_Evaluator_keepInto_24 rfl rfl ?_
          refine VW.aload_n (pc' := 27) d_Evaluator_keepInto_26 rfl rfl ?_
          refine VW.gI (ci := 5) (T := T5) (N := 3) (k := 2) (k' := 2) (pc' := 30) d_Evaluator_keepInto_27 rfl lk_Evaluator_54 in5 rfl rfl rfl rfl (by first | exact hO.1 | exact hO.2.2 | exact hE.1 | exact hE.2.2 | exact hRw.1 | exact hRw.2.2 | exact hG.1 | assumption) (by first | exact hO.2.1 | exact hE.2.1 | exact hRw.2.1 | exact hs | exact tm | exact tw | rfl) ?_
          refine VW.icmp_ge (tgt := 66) (pc' := 33) d_Evaluator_keepInto_30 rfl rfl (fun c30 => ?_) (fun c30 => ?_)
          · exfalso; omega
          · refine VW.iload_n (pc' := 34) d_Evaluator_keepInto_33 rfl rfl ?_
            refine VW.iload (pc' := 36) d_Evaluator_keepInto_34 rfl rfl ?_
            refine VW.ishr (pc' := 37) (z := s / 2 ^ c) d_Evaluator_keepInto_36 rfl (⟨by omega, by omega⟩) (i1) ?_
            refine VW.iconst (pc' := 38) d_Evaluator_keepInto_37 rfl (by decide) ?_
            refine VW.iand (pc' := 39) (z := s / 2 ^ c % 2) d_Evaluator_keepInto_38 rfl (⟨by omega, by omega⟩) (a1) ?_
            refine VW.if_eq (tgt := 60) (pc' := 42) d_Evaluator_keepInto_39 rfl rfl (fun c39 => ?_) (fun c39 => ?_)
            · try have e39 := bIe c39
              refine VW.iinc (pc' := 63) d_Evaluator_keepInto_60 rfl rfl rfl (by omega) ?_
              refine VW.goto (pc' := 24) d_Evaluator_keepInto_63 rfl ?_
              refine VW.pick [0, 1, 2, 3, 4, 5, 6] ?_
              first | exact sk c39 | exact ad c39
            · try have e39 := bIn c39
              refine VW.aload_n (pc' := 43) d_Evaluator_keepInto_42 rfl rfl ?_
              refine VW.gP (ci := 5) (T := T5) (N := 3) (k := 0) (k' := 0) (pc' := 46) d_Evaluator_keepInto_43 rfl lk_Evaluator_142 in5 rfl rfl rfl rfl (by first | exact hO.1 | exact hO.2.2 | exact hE.1 | exact hE.2.2 | exact hRw.1 | exact hRw.2.2 | exact hG.1 | assumption) (by first | exact hO.2.1 | exact hE.2.1 | exact hRw.2.1 | exact hs | exact tm | exact tw | rfl) ?_
              refine VW.iload (pc' := 48) d_Evaluator_keepInto_46 rfl rfl ?_
              refine VW.aload_n (pc' := 49) d_Evaluator_keepInto_48 rfl rfl ?_
              refine VW.iload (pc' := 51) d_Evaluator_keepInto_49 rfl rfl ?_
              refine VW.iload (pc' := 53) d_Evaluator_keepInto_51 rfl rfl ?_
              refine VW.cV (ci := 5) (T := T5) (N := 3) (pc' := 56) d_Evaluator_keepInto_53 rfl mv_Relation_cell lk_Evaluator_135 rfl (by first | exact hO.1 | exact hO.2.2 | exact hE.1 | exact hE.2.2 | exact hRw.1 | exact hRw.2.2 | exact hG.1 | assumption) rfl rfl rfl (Nat.le_refl _) (Nat.le_refl _) (sp_Relation_cell hE (by rw [tw]; omega)) rfl rfl ?_
              refine VW.iast (pc' := 57) d_Evaluator_keepInto_56 rfl (by first | exact hO.1 | exact hO.2.2 | exact hE.1 | exact hE.2.2 | exact hRw.1 | exact hRw.2.2 | exact hG.1 | assumption) (by have := wc2 c39; omega) (by have := wc2 c39; omega) ?_
              refine VW.iinc (pc' := 60) d_Evaluator_keepInto_57 rfl rfl rfl (by omega) ?_
              refine VW.iinc (pc' := 63) d_Evaluator_keepInto_60 rfl rfl rfl (by omega) ?_
              refine VW.goto (pc' := 24) d_Evaluator_keepInto_63 rfl ?_
              refine VW.pick [0, 1, 2, 3, 4, 5, 6] ?_
              first | exact sk c39 | exact ad c39
      have te : T ei = I ei := h.2 ei nei
      have tm : T ei 1 = L.length := by rw [te]; exact hR.2.1
      have tw : T eo 2 = wk s w := by rw [h.2 eo neo]; exact h0.1
      have l9 := inner w 0 T (by omega) ⟨h, by rw [show wk s 0 = 0 from rfl]; rfl⟩
      rw [show (wk s 0 : Nat) = 0 from rfl, show (k : Int) * (wk s w : Int) + ((0 : Nat) : Int) = (k : Int) * (wk s w : Int) by omega] at l9
      clear inner ih
      refine VW.iload (pc' := 5) d_Evaluator_keepInto_3 rfl rfl ?_
      refine VW.aload_n (pc' := 6) d_Evaluator_keepInto_5 rfl rfl ?_
      refine VW.gI (ci := 5) (T := T5) (N := 3) (k := 1) (k' := 1) (pc' := 9) d_Evaluator_keepInto_6 rfl lk_Evaluator_61 in5 rfl rfl rfl rfl (by first | exact hO.1 | exact hO.2.2 | exact hE.1 | exact hE.2.2 | exact hRw.1 | exact hRw.2.2 | exact hG.1 | assumption) (by first | exact hO.2.1 | exact hE.2.1 | exact hRw.2.1 | exact hs | exact tm | exact tw | rfl) ?_
      refine VW.icmp_ge (tgt := 72) (pc' := 12) d_Evaluator_keepInto_9 rfl rfl (fun c9 => ?_) (fun c9 => ?_)
      · exfalso; omega
      · refine VW.iload (pc' := 14) d_Evaluator_keepInto_12 rfl rfl ?_
        refine VW.aload_n (pc' := 15) d_Evaluator_keepInto_14 rfl rfl ?_
        refine VW.gI (ci := 5) (T := T5) (N := 3) (k := 2) (k' := 2) (pc' := 18) d_Evaluator_keepInto_15 rfl lk_Evaluator_54 in5 rfl rfl rfl rfl (by first | exact hO.1 | exact hO.2.2 | exact hE.1 | exact hE.2.2 | exact hRw.1 | exact hRw.2.2 | exact hG.1 | assumption) (by first | exact hO.2.1 | exact hE.2.1 | exact hRw.2.1 | exact hs | exact tm | exact tw | rfl) ?_
        refine VW.imul (pc' := 19) d_Evaluator_keepInto_18 rfl (by omega) ?_
        refine VW.istore (pc' := 21) d_Evaluator_keepInto_19 rfl rfl ?_
        refine VW.iconst (pc' := 22) d_Evaluator_keepInto_21 rfl (by decide) ?_
        refine VW.istore (pc' := 24) d_Evaluator_keepInto_22 rfl rfl ?_
        refine VW.nrm ?_
        exact l9
  have l := loop L.length 0 I (by omega) ⟨rfl, fun _ _ => rfl⟩
  clear loop
  refine VW.iconst (pc' := 1) d_Evaluator_keepInto_0 rfl (by decide) ?_
  refine VW.istore (pc' := 3) d_Evaluator_keepInto_1 rfl rfl ?_
  refine VW.nrm ?_
  exact l
end
