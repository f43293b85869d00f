section
variable {K : KT} {P : PT} {J I : IT}
theorem take_snoc {α : Type} {L : List α} {k : Nat} {x : α} (h : L[k]? = some x) : L.take (k + 1) = L.take k ++ [x] := by
  rw [List.take_add_one, h]; rfl
/-- two results that are apart -/
def ReA (K : KT) (P : PT) (eo co ei ci : Nat) : Prop := ReW K P eo co 5120 ∧ ReW K P ei ci 5120 ∧ eo ≠ ei ∧ co ≠ ci
/-- k rows are done: those with p are in the result -/
def FIc (I T : IT) (v eo co w : Nat) (p F : List Int → Prop) (L : List (List Int)) (k : Nat) : Prop := RelR T eo co w (flt p (L.take k)) ∧ (∀ o, o ≠ eo → o ≠ co → o ≠ v → T o = I o) ∧ (∀ q, q ≠ 6 → T v q = I v q) ∧ T v 6 = bI (I v 6 = 1 ∨ ∃ r ∈ L.take k, F r)
theorem FIc.yes {T : IT} {v eo co ei ci w k : Nat} {p F : List Int → Prop} {L : List (List Int)} {x : List Int} {A : Int} (h : FIc I T v eo co w p F L k) (hA : ReA K P eo co ei ci) (hv : v ≠ eo ∧ v ≠ co ∧ v ≠ ci) (hk : L[k]? = some x) (hx : rowAt I ci A w = x) (hp : p x) (hF : ¬ F x) : FIc I (reAdd T eo co ci A) v eo co w p F L (k + 1) := by
  obtain ⟨h1, h2, h3, h4⟩ := h
  have e : reAdd T eo co ci A v = T v := reAdd_o hv.1 hv.2.1
  refine ⟨?_, fun o o1 o2 o3 => (reAdd_o o1 o2).trans (h2 o o1 o2 o3), fun q hq => by rw [e]; exact h3 q hq, ?_⟩
  · rw [take_snoc hk, flt_yes hp, ← hx]
    have r := reAdd_R (I := T) (d := ci) (A := A) hA.1.ne h1
    rw [rowAt_congr (I := I) (S := T) (a' := ci) (a := ci) (b := A) (b' := A) (fun c _ _ => by rw [h2 ci (fun z => hA.1.ne2 hA.2.1 z.symm) (fun z => hA.2.2.2 z.symm) (fun z => hv.2.2 z.symm)])] at r
    exact r
  · rw [e, h4, take_snoc hk]
    have : (I v 6 = 1 ∨ ∃ r ∈ L.take k, F r) = (I v 6 = 1 ∨ ∃ r ∈ L.take k ++ [x], F r) := propext ⟨fun z => z.elim Or.inl (fun ⟨r, a, b⟩ => Or.inr ⟨r, List.mem_append_left _ a, b⟩), fun z => z.elim Or.inl (fun ⟨r, a, b⟩ => (List.mem_append.mp a).elim (fun a => Or.inr ⟨r, a, b⟩) (fun a => absurd (by rw [List.mem_singleton.mp a] at b; exact b) hF))⟩
    rw [this]
theorem FIc.no {T : IT} {v eo co w k : Nat} {p F : List Int → Prop} {L : List (List Int)} {x : List Int} (h : FIc I T v eo co w p F L k) (hk : L[k]? = some x) (hp : ¬ p x) (hF : ¬ F x) : FIc I T v eo co w p F L (k + 1) := by
  obtain ⟨h1, h2, h3, h4⟩ := h
  refine ⟨by rw [take_snoc hk, flt_no hp]; exact h1, h2, h3, ?_⟩
  rw [h4, take_snoc hk]
  have : (I v 6 = 1 ∨ ∃ r ∈ L.take k, F r) = (I v 6 = 1 ∨ ∃ r ∈ L.take k ++ [x], F r) := propext ⟨fun z => z.elim Or.inl (fun ⟨r, a, b⟩ => Or.inr ⟨r, List.mem_append_left _ a, b⟩), fun z => z.elim Or.inl (fun ⟨r, a, b⟩ => (List.mem_append.mp a).elim (fun a => Or.inr ⟨r, a, b⟩) (fun a => absurd (by rw [List.mem_singleton.mp a] at b; exact b) hF))⟩
  rw [this]
theorem FIc.fail {T : IT} {v eo co w k : Nat} {p F : List Int → Prop} {L : List (List Int)} {x : List Int} (h : FIc I T v eo co w p F L k) (hv : v ≠ eo ∧ v ≠ co) (hk : L[k]? = some x) (hp : ¬ p x) (hF : F x) : FIc I (up2 T v 6 1) v eo co w p F L (k + 1) := by
  obtain ⟨h1, h2, h3, h4⟩ := h
  refine ⟨?_, fun o o1 o2 o3 => (funext (fun q => up2_o _ _ _ _ o3)).trans (h2 o o1 o2 o3), fun q hq => (up2_k _ _ _ _ hq).trans (h3 q hq), ?_⟩
  · rw [take_snoc hk, flt_no hp]
    exact h1.of (funext (fun q => up2_o _ _ _ _ hv.1.symm)) (funext (fun q => up2_o _ _ _ _ hv.2.symm))
  · rw [up2_eq, take_snoc hk]
    exact (bI1 (Or.inr ⟨x, List.mem_append_right _ (List.mem_singleton.mpr rfl), hF⟩)).symm
theorem stayF_no {op A B : Int} {r : List Int} (h : op ≠ 3) : ¬ stayF op A B r := fun z => h z.1
theorem FIc.end' {T : IT} {v eo co w : Nat} {p F : List Int → Prop} {L : List (List Int)} (h : FIc I T v eo co w p F L L.length) : RelR T eo co w (flt p L) ∧ (∀ o, o ≠ eo → o ≠ co → o ≠ v → T o = I o) ∧ (∀ q, q ≠ 6 → T v q = I v q) ∧ T v 6 = bI (I v 6 = 1 ∨ ∃ r ∈ L, F r) := by
  unfold FIc at h
  rw [List.take_length] at h
  exact h
theorem sp_Evaluator_filterInto {v eo co ei ci w : Nat} {a b c nt : Int} {L : List (List Int)} (hv : K v = some (1, 0)) (hA : ReA K P eo co ei ci) (hR : RelR I ei ci w L) (h0 : RelR I eo co w []) (hw : w ≤ 10) (hL : L.length ≤ 512) (ha : 0 ≤ a ∧ a < w) (hf : I v 6 = 0 ∨ I v 6 = 1) : Sp m_Evaluator_filterInto false (rmv 3 120) (exU K P J (.inl none) (fun T => RelR T eo co w (flt (stayP 1 a b c nt) L) ∧ (∀ o, o ≠ eo → o ≠ co → o ≠ v → T o = I o) ∧ (∀ q, q ≠ 6 → T v q = I v q) ∧ T v 6 = bI (I v 6 = 1 ∨ ∃ r ∈ L, stayF 1 a b r))) K P J I [vR (some v), vR (some eo), vR (some ei), vI a, vI b, vI c, vI nt] := by
  refine Sp.ofV (by decide) (Or.inr rfl) rfl ?_
  obtain ⟨hO, hE, ne, nc⟩ := id hA
  have hve : v ≠ eo := fun z => by have := hv.symm.trans (z ▸ hO.1); cases this
  have hvi : v ≠ ei := fun z => by have := hv.symm.trans (z ▸ hE.1); cases this
  have hvc : v ≠ co := fun z => by have := hv.symm.trans (z ▸ hO.2.2); cases this
  have hvd : v ≠ ci := fun z => by have := hv.symm.trans (z ▸ hE.2.2); cases this
  have loop : ∀ (l k : Nat) (T : IT), k + l = L.length → FIc I T v eo co w (stayP 1 a b c nt) (stayF 1 a b) L k → VW m_Evaluator_filterInto false (rmv 3 120) (exU K P J (.inl none) (fun T => RelR T eo co w (flt (stayP 1 a b c nt) L) ∧ (∀ o, o ≠ eo → o ≠ co → o ≠ v → T o = I o) ∧ (∀ q, q ≠ 6 → T v q = I v q) ∧ T v 6 = bI (I v 6 = 1 ∨ ∃ r ∈ L, stayF 1 a b r))) K P J T 0 0 3 [(0, vR (some v)), (1, vR (some eo)), (2, vR (some ei)), (3, vI a), (4, vI b), (5, vI c), (6, vI nt), (7, vI (k : Int))] [] := by
    intro l
    induction l with
    | zero =>
      intro k T hk h
      have ek : k = L.length := by omega
      subst ek
      have h9 := h.end'
      have tm : T ei 1 = L.length := by rw [h.2.1 ei ne.symm (hE.ne2 hO) hvi.symm]; exact hR.2.1
      refine VW.iload (pc' := 5) d_Evaluator_filterInto_3 rfl rfl ?_
      refine VW.aload_n (pc' := 6) d_Evaluator_filterInto_5 rfl rfl ?_
      refine VW.gI (ci := 5) (T := T5) (N := 3) (k := 1) (k' := 1) (pc' := 9) d_Evaluator_filterInto_6 rfl lk_Evaluator_61 in5 rfl rfl rfl rfl (by first | exact hO.1 | exact hO.2.2 | exact hE.1 | exact hE.2.2 | assumption) (by first | exact hO.2.1 | exact hE.2.1 | exact tm | rfl) ?_
      refine VW.icmp_ge (tgt := 52) (pc' := 12) d_Evaluator_filterInto_9 rfl rfl (fun c9 => ?_) (fun c9 => ?_)
      · exact VW.vret d_Evaluator_filterInto_52 rfl (Nat.zero_le _) (Nat.zero_le _) (⟨rfl, rfl, rfl, rfl, h9⟩)
      · exfalso; omega
    | succ l ih =>
      intro k T hk h
      have te : T ei = I ei := h.2.1 ei ne.symm (hE.ne2 hO) hvi.symm
      have td : T ci = I ci := h.2.1 ci (fun z => hO.ne2 hE z.symm) nc.symm hvd.symm
      have tm : T ei 1 = L.length := by rw [te]; exact hR.2.1
      have tw : T ei 2 = w := by rw [te]; exact hR.1
      have m1 := relMul (w := w) (m := k) hw (by omega)
      have fl : (flt (stayP 1 a b c nt) (L.take k)).length ≤ k := Nat.le_trans flt_len (by rw [List.length_take]; omega)
      have m2 := relMul (w := w) (m := (flt (stayP 1 a b c nt) (L.take k)).length) hw (by omega)
      have to1 : T eo 1 = _ := h.1.2.1
      have to2 : T eo 2 = w := h.1.1
      have g1 : T eo 1 < 512 := by rw [to1]; omega
      have g2 : 0 ≤ T eo 1 * T eo 2 ∧ 0 ≤ T eo 2 ∧ T eo 1 * T eo 2 + T eo 2 ≤ (5120 : Nat) ∧ (5120 : Nat) ≤ 524288 ∧ 0 ≤ T eo 1 := by rw [to1, to2]; omega
      have g3 : 0 ≤ (k : Int) * T ei 2 ∧ (k : Int) * T ei 2 + T eo 2 ≤ (5120 : Nat) ∧ (5120 : Nat) ≤ 524288 := by rw [tw, to2]; omega
      have hrow := hR.row (k := k) (by omega)
      rw [Int.mul_comm] at hrow
      have cel : ∀ c : Int, 0 ≤ c → c < w → nth (rowAt I ci ((k : Int) * (w : Int)) w) c = T ci ((k : Int) * T ei 2 + c) := fun c c0 c1 => by rw [nth_rowAt c0 c1, td, tw]
      have k1 : ((k + 1 : Nat) : Int) = (k : Int) + 1 := by omega
      have sk : ¬ stayP 1 a b c nt (rowAt I ci ((k : Int) * (w : Int)) w) → ¬ stayF 1 a b (rowAt I ci ((k : Int) * (w : Int)) w) → VW m_Evaluator_filterInto false (rmv 3 120) (exU K P J (.inl none) (fun T => RelR T eo co w (flt (stayP 1 a b c nt) L) ∧ (∀ o, o ≠ eo → o ≠ co → o ≠ v → T o = I o) ∧ (∀ q, q ≠ 6 → T v q = I v q) ∧ T v 6 = bI (I v 6 = 1 ∨ ∃ r ∈ L, stayF 1 a b r))) K P J T 0 0 3 [(0, vR (some v)), (1, vR (some eo)), (2, vR (some ei)), (3, vI a), (4, vI b), (5, vI c), (6, vI nt), (7, vI ((k : Int) + 1))] [] := fun z z2 => by
        have h := ih (k + 1) T (by omega) (h.no hrow z z2)
        rw [k1] at h; exact h
      have ad : stayP 1 a b c nt (rowAt I ci ((k : Int) * (w : Int)) w) → ¬ stayF 1 a b (rowAt I ci ((k : Int) * (w : Int)) w) → VW m_Evaluator_filterInto false (rmv 3 120) (exU K P J (.inl none) (fun T => RelR T eo co w (flt (stayP 1 a b c nt) L) ∧ (∀ o, o ≠ eo → o ≠ co → o ≠ v → T o = I o) ∧ (∀ q, q ≠ 6 → T v q = I v q) ∧ T v 6 = bI (I v 6 = 1 ∨ ∃ r ∈ L, stayF 1 a b r))) K P J (up2 (cpyI T ci ((k : Int) * T ei 2) co (T eo 1 * T eo 2) (T eo 2)) eo 1 (T eo 1 + 1)) 0 0 3 [(0, vR (some v)), (1, vR (some eo)), (2, vR (some ei)), (3, vI a), (4, vI b), (5, vI c), (6, vI nt), (7, vI ((k : Int) + 1))] [] := fun z z2 => by
        have h := ih (k + 1) _ (by omega) (h.yes hA ⟨hve, hvc, hvd⟩ hrow rfl z z2)
        rw [k1, ← tw] at h; exact h
      have eA := cel a ha.1 ha.2
      have q3 : ¬ stayF 1 a b (rowAt I ci ((k : Int) * (w : Int)) w) := fun z => absurd z.1 (by decide)
      have py : cmp3 (T ci ((k : Int) * T ei 2 + a)) b c = (if nt = 0 then 1 else 0) → stayP 1 a b c nt (rowAt I ci ((k : Int) * (w : Int)) w) := fun z => Or.inr (Or.inl ⟨by decide, rfl, by rw [eA]; exact z⟩)
      have pn : cmp3 (T ci ((k : Int) * T ei 2 + a)) b c ≠ (if nt = 0 then 1 else 0) → ¬ stayP 1 a b c nt (rowAt I ci ((k : Int) * (w : Int)) w) := fun z y => by
        rcases y with y | y | y
        · exact absurd y.1 (by decide)
        · exact z (by rw [← eA]; exact y.2.2)
        · exact y.2.1 rfl
      clear ih
      refine VW.iload (pc' := 5) d_Evaluator_filterInto_3 rfl rfl ?_
      refine VW.aload_n (pc' := 6) d_Evaluator_filterInto_5 rfl rfl ?_
      refine VW.gI (ci := 5) (T := T5) (N := 3) (k := 1) (k' := 1) (pc' := 9) d_Evaluator_filterInto_6 rfl lk_Evaluator_61 in5 rfl rfl rfl rfl (by first | exact hO.1 | exact hO.2.2 | exact hE.1 | exact hE.2.2 | assumption) (by first | exact hO.2.1 | exact hE.2.1 | exact tm | rfl) ?_
      refine VW.icmp_ge (tgt := 52) (pc' := 12) d_Evaluator_filterInto_9 rfl rfl (fun c9 => ?_) (fun c9 => ?_)
      · exfalso; omega
      · refine VW.aload_n (pc' := 13) d_Evaluator_filterInto_12 rfl rfl ?_
        refine VW.iload (pc' := 15) d_Evaluator_filterInto_13 rfl rfl ?_
        refine VW.iload_n (pc' := 16) d_Evaluator_filterInto_15 rfl rfl ?_
        refine VW.cV (ci := 5) (T := T5) (N := 3) (pc' := 19) d_Evaluator_filterInto_16 rfl mv_Relation_cell lk_Evaluator_135 rfl (by first | exact hO.1 | exact hO.2.2 | exact hE.1 | exact hE.2.2 | assumption) rfl rfl rfl (Nat.le_refl _) (Nat.le_refl _) (sp_Relation_cell hE (by rw [tw]; omega)) rfl rfl ?_
        refine VW.iload (pc' := 21) d_Evaluator_filterInto_19 rfl rfl ?_
        refine VW.iload (pc' := 23) d_Evaluator_filterInto_21 rfl rfl ?_
        refine VW.cSN (host := "RowForge") (pc' := 26) d_Evaluator_filterInto_23 rfl ms_F_compared (by decide) rfl rfl rfl (Nat.le_refl _) (Nat.le_refl _) (sp_F_compared) rfl rfl ?_
        refine VW.iload (pc' := 28) d_Evaluator_filterInto_26 rfl rfl ?_
        refine VW.if_eq (tgt := 35) (pc' := 31) d_Evaluator_filterInto_28 rfl rfl (fun c28 => ?_) (fun c28 => ?_)
        · try have e28 := bIe c28
          refine VW.iconst (pc' := 36) d_Evaluator_filterInto_35 rfl (by decide) ?_
          refine VW.icmp_ne (tgt := 46) (pc' := 39) d_Evaluator_filterInto_36 rfl rfl (fun c36 => ?_) (fun c36 => ?_)
          · refine VW.iinc (pc' := 49) d_Evaluator_filterInto_46 rfl rfl rfl (by omega) ?_
            refine VW.goto (pc' := 3) d_Evaluator_filterInto_49 rfl ?_
            refine VW.pick [0, 1, 2, 3, 4, 5, 6, 7] ?_
            first | exact sk (pn (by rw [if_pos c28]; exact c36)) q3 | exact sk (pn (by rw [if_neg c28]; exact c36)) q3 | exact ad (py (by rw [if_pos c28]; exact c36)) q3 | exact ad (py (by rw [if_neg c28]; exact c36)) q3
          · refine VW.aload_n (pc' := 40) d_Evaluator_filterInto_39 rfl rfl ?_
            refine VW.aload_n (pc' := 41) d_Evaluator_filterInto_40 rfl rfl ?_
            refine VW.iload (pc' := 43) d_Evaluator_filterInto_41 rfl rfl ?_
            refine VW.cV (ci := 5) (T := T5) (N := 3) (pc' := 46) d_Evaluator_filterInto_43 rfl mv_Relation_addRow lk_Evaluator_64 rfl (by first | exact hO.1 | exact hO.2.2 | exact hE.1 | exact hE.2.2 | assumption) rfl rfl rfl (Nat.le_refl _) (Nat.le_refl _) (sp_Relation_addRow hO hE g1 g2 g3) rfl rfl ?_
            refine VW.iinc (pc' := 49) d_Evaluator_filterInto_46 rfl rfl rfl (by omega) ?_
            refine VW.goto (pc' := 3) d_Evaluator_filterInto_49 rfl ?_
            refine VW.pick [0, 1, 2, 3, 4, 5, 6, 7] ?_
            first | exact sk (pn (by rw [if_pos c28]; exact c36)) q3 | exact sk (pn (by rw [if_neg c28]; exact c36)) q3 | exact ad (py (by rw [if_pos c28]; exact c36)) q3 | exact ad (py (by rw [if_neg c28]; exact c36)) q3
        · try have e28 := bIn c28
          refine VW.iconst (pc' := 32) d_Evaluator_filterInto_31 rfl (by decide) ?_
          refine VW.goto (pc' := 36) d_Evaluator_filterInto_32 rfl ?_
          refine VW.icmp_ne (tgt := 46) (pc' := 39) d_Evaluator_filterInto_36 rfl rfl (fun c36 => ?_) (fun c36 => ?_)
          · refine VW.iinc (pc' := 49) d_Evaluator_filterInto_46 rfl rfl rfl (by omega) ?_
            refine VW.goto (pc' := 3) d_Evaluator_filterInto_49 rfl ?_
            refine VW.pick [0, 1, 2, 3, 4, 5, 6, 7] ?_
            first | exact sk (pn (by rw [if_pos c28]; exact c36)) q3 | exact sk (pn (by rw [if_neg c28]; exact c36)) q3 | exact ad (py (by rw [if_pos c28]; exact c36)) q3 | exact ad (py (by rw [if_neg c28]; exact c36)) q3
          · refine VW.aload_n (pc' := 40) d_Evaluator_filterInto_39 rfl rfl ?_
            refine VW.aload_n (pc' := 41) d_Evaluator_filterInto_40 rfl rfl ?_
            refine VW.iload (pc' := 43) d_Evaluator_filterInto_41 rfl rfl ?_
            refine VW.cV (ci := 5) (T := T5) (N := 3) (pc' := 46) d_Evaluator_filterInto_43 rfl mv_Relation_addRow lk_Evaluator_64 rfl (by first | exact hO.1 | exact hO.2.2 | exact hE.1 | exact hE.2.2 | assumption) rfl rfl rfl (Nat.le_refl _) (Nat.le_refl _) (sp_Relation_addRow hO hE g1 g2 g3) rfl rfl ?_
            refine VW.iinc (pc' := 49) d_Evaluator_filterInto_46 rfl rfl rfl (by omega) ?_
            refine VW.goto (pc' := 3) d_Evaluator_filterInto_49 rfl ?_
            refine VW.pick [0, 1, 2, 3, 4, 5, 6, 7] ?_
            first | exact sk (pn (by rw [if_pos c28]; exact c36)) q3 | exact sk (pn (by rw [if_neg c28]; exact c36)) q3 | exact ad (py (by rw [if_pos c28]; exact c36)) q3 | exact ad (py (by rw [if_neg c28]; exact c36)) q3
  have l := loop L.length 0 I (by omega) ⟨h0, fun _ _ _ _ => rfl, fun _ _ => rfl, by
    have e : (I v 6 = 1 ∨ ∃ r ∈ L.take 0, stayF 1 a b r) = (I v 6 = 1) := propext ⟨fun z => z.elim id (fun ⟨r, a, _⟩ => absurd a (by simp)), Or.inl⟩
    rw [e]
    rcases hf with z | z
    · rw [z]; exact (bI0 (by decide)).symm
    · rw [z]; exact (bI1 rfl).symm⟩
  clear loop
  refine VW.iconst (pc' := 1) d_Evaluator_filterInto_0 rfl (by decide) ?_
  refine VW.istore (pc' := 3) d_Evaluator_filterInto_1 rfl rfl ?_
  refine VW.nrm ?_
  exact l
theorem sp_Evaluator_pairInto {v eo co ei ci w : Nat} {a b c nt : Int} {L : List (List Int)} (hv : K v = some (1, 0)) (hA : ReA K P eo co ei ci) (hR : RelR I ei ci w L) (h0 : RelR I eo co w []) (hw : w ≤ 10) (hL : L.length ≤ 512) (ha : 0 ≤ a ∧ a < w) (hc : 0 ≤ c ∧ c < w) (hf : I v 6 = 0 ∨ I v 6 = 1) : Sp m_Evaluator_pairInto false (rmv 3 120) (exU K P J (.inl none) (fun T => RelR T eo co w (flt (stayP 2 a b c nt) L) ∧ (∀ o, o ≠ eo → o ≠ co → o ≠ v → T o = I o) ∧ (∀ q, q ≠ 6 → T v q = I v q) ∧ T v 6 = bI (I v 6 = 1 ∨ ∃ r ∈ L, stayF 2 a b r))) K P J I [vR (some v), vR (some eo), vR (some ei), vI a, vI b, vI c, vI nt] := by
  refine Sp.ofV (by decide) (Or.inr rfl) rfl ?_
  obtain ⟨hO, hE, ne, nc⟩ := id hA
  have hve : v ≠ eo := fun z => by have := hv.symm.trans (z ▸ hO.1); cases this
  have hvi : v ≠ ei := fun z => by have := hv.symm.trans (z ▸ hE.1); cases this
  have hvc : v ≠ co := fun z => by have := hv.symm.trans (z ▸ hO.2.2); cases this
  have hvd : v ≠ ci := fun z => by have := hv.symm.trans (z ▸ hE.2.2); cases this
  have loop : ∀ (l k : Nat) (T : IT), k + l = L.length → FIc I T v eo co w (stayP 2 a b c nt) (stayF 2 a b) L k → VW m_Evaluator_pairInto false (rmv 3 120) (exU K P J (.inl none) (fun T => RelR T eo co w (flt (stayP 2 a b c nt) L) ∧ (∀ o, o ≠ eo → o ≠ co → o ≠ v → T o = I o) ∧ (∀ q, q ≠ 6 → T v q = I v q) ∧ T v 6 = bI (I v 6 = 1 ∨ ∃ r ∈ L, stayF 2 a b r))) K P J T 0 0 3 [(0, vR (some v)), (1, vR (some eo)), (2, vR (some ei)), (3, vI a), (4, vI b), (5, vI c), (6, vI nt), (7, vI (k : Int))] [] := by
    intro l
    induction l with
    | zero =>
      intro k T hk h
      have ek : k = L.length := by omega
      subst ek
      have h9 := h.end'
      have tm : T ei 1 = L.length := by rw [h.2.1 ei ne.symm (hE.ne2 hO) hvi.symm]; exact hR.2.1
      refine VW.iload (pc' := 5) d_Evaluator_pairInto_3 rfl rfl ?_
      refine VW.aload_n (pc' := 6) d_Evaluator_pairInto_5 rfl rfl ?_
      refine VW.gI (ci := 5) (T := T5) (N := 3) (k := 1) (k' := 1) (pc' := 9) d_Evaluator_pairInto_6 rfl lk_Evaluator_61 in5 rfl rfl rfl rfl (by first | exact hO.1 | exact hO.2.2 | exact hE.1 | exact hE.2.2 | assumption) (by first | exact hO.2.1 | exact hE.2.1 | exact tm | rfl) ?_
      refine VW.icmp_ge (tgt := 58) (pc' := 12) d_Evaluator_pairInto_9 rfl rfl (fun c9 => ?_) (fun c9 => ?_)
      · exact VW.vret d_Evaluator_pairInto_58 rfl (Nat.zero_le _) (Nat.zero_le _) (⟨rfl, rfl, rfl, rfl, h9⟩)
      · exfalso; omega
    | succ l ih =>
      intro k T hk h
      have te : T ei = I ei := h.2.1 ei ne.symm (hE.ne2 hO) hvi.symm
      have td : T ci = I ci := h.2.1 ci (fun z => hO.ne2 hE z.symm) nc.symm hvd.symm
      have tm : T ei 1 = L.length := by rw [te]; exact hR.2.1
      have tw : T ei 2 = w := by rw [te]; exact hR.1
      have m1 := relMul (w := w) (m := k) hw (by omega)
      have fl : (flt (stayP 2 a b c nt) (L.take k)).length ≤ k := Nat.le_trans flt_len (by rw [List.length_take]; omega)
      have m2 := relMul (w := w) (m := (flt (stayP 2 a b c nt) (L.take k)).length) hw (by omega)
      have to1 : T eo 1 = _ := h.1.2.1
      have to2 : T eo 2 = w := h.1.1
      have g1 : T eo 1 < 512 := by rw [to1]; omega
      have g2 : 0 ≤ T eo 1 * T eo 2 ∧ 0 ≤ T eo 2 ∧ T eo 1 * T eo 2 + T eo 2 ≤ (5120 : Nat) ∧ (5120 : Nat) ≤ 524288 ∧ 0 ≤ T eo 1 := by rw [to1, to2]; omega
      have g3 : 0 ≤ (k : Int) * T ei 2 ∧ (k : Int) * T ei 2 + T eo 2 ≤ (5120 : Nat) ∧ (5120 : Nat) ≤ 524288 := by rw [tw, to2]; omega
      have hrow := hR.row (k := k) (by omega)
      rw [Int.mul_comm] at hrow
      have cel : ∀ c : Int, 0 ≤ c → c < w → nth (rowAt I ci ((k : Int) * (w : Int)) w) c = T ci ((k : Int) * T ei 2 + c) := fun c c0 c1 => by rw [nth_rowAt c0 c1, td, tw]
      have k1 : ((k + 1 : Nat) : Int) = (k : Int) + 1 := by omega
      have sk : ¬ stayP 2 a b c nt (rowAt I ci ((k : Int) * (w : Int)) w) → ¬ stayF 2 a b (rowAt I ci ((k : Int) * (w : Int)) w) → VW m_Evaluator_pairInto false (rmv 3 120) (exU K P J (.inl none) (fun T => RelR T eo co w (flt (stayP 2 a b c nt) L) ∧ (∀ o, o ≠ eo → o ≠ co → o ≠ v → T o = I o) ∧ (∀ q, q ≠ 6 → T v q = I v q) ∧ T v 6 = bI (I v 6 = 1 ∨ ∃ r ∈ L, stayF 2 a b r))) K P J T 0 0 3 [(0, vR (some v)), (1, vR (some eo)), (2, vR (some ei)), (3, vI a), (4, vI b), (5, vI c), (6, vI nt), (7, vI ((k : Int) + 1))] [] := fun z z2 => by
        have h := ih (k + 1) T (by omega) (h.no hrow z z2)
        rw [k1] at h; exact h
      have ad : stayP 2 a b c nt (rowAt I ci ((k : Int) * (w : Int)) w) → ¬ stayF 2 a b (rowAt I ci ((k : Int) * (w : Int)) w) → VW m_Evaluator_pairInto false (rmv 3 120) (exU K P J (.inl none) (fun T => RelR T eo co w (flt (stayP 2 a b c nt) L) ∧ (∀ o, o ≠ eo → o ≠ co → o ≠ v → T o = I o) ∧ (∀ q, q ≠ 6 → T v q = I v q) ∧ T v 6 = bI (I v 6 = 1 ∨ ∃ r ∈ L, stayF 2 a b r))) K P J (up2 (cpyI T ci ((k : Int) * T ei 2) co (T eo 1 * T eo 2) (T eo 2)) eo 1 (T eo 1 + 1)) 0 0 3 [(0, vR (some v)), (1, vR (some eo)), (2, vR (some ei)), (3, vI a), (4, vI b), (5, vI c), (6, vI nt), (7, vI ((k : Int) + 1))] [] := fun z z2 => by
        have h := ih (k + 1) _ (by omega) (h.yes hA ⟨hve, hvc, hvd⟩ hrow rfl z z2)
        rw [k1, ← tw] at h; exact h
      have eA := cel a ha.1 ha.2
      have eC := cel c hc.1 hc.2
      have q3 : ¬ stayF 2 a b (rowAt I ci ((k : Int) * (w : Int)) w) := fun z => absurd z.1 (by decide)
      have py : cmp3 (T ci ((k : Int) * T ei 2 + a)) b (T ci ((k : Int) * T ei 2 + c)) = (if nt = 0 then 1 else 0) → stayP 2 a b c nt (rowAt I ci ((k : Int) * (w : Int)) w) := fun z => Or.inr (Or.inr ⟨by decide, by decide, by rw [eA, eC]; exact z⟩)
      have pn : cmp3 (T ci ((k : Int) * T ei 2 + a)) b (T ci ((k : Int) * T ei 2 + c)) ≠ (if nt = 0 then 1 else 0) → ¬ stayP 2 a b c nt (rowAt I ci ((k : Int) * (w : Int)) w) := fun z y => by
        rcases y with y | y | y
        · exact absurd y.1 (by decide)
        · exact absurd y.2.1 (by decide)
        · exact z (by rw [← eA, ← eC]; exact y.2.2)
      clear ih
      refine VW.iload (pc' := 5) d_Evaluator_pairInto_3 rfl rfl ?_
      refine VW.aload_n (pc' := 6) d_Evaluator_pairInto_5 rfl rfl ?_
      refine VW.gI (ci := 5) (T := T5) (N := 3) (k := 1) (k' := 1) (pc' := 9) d_Evaluator_pairInto_6 rfl lk_Evaluator_61 in5 rfl rfl rfl rfl (by first | exact hO.1 | exact hO.2.2 | exact hE.1 | exact hE.2.2 | assumption) (by first | exact hO.2.1 | exact hE.2.1 | exact tm | rfl) ?_
      refine VW.icmp_ge (tgt := 58) (pc' := 12) d_Evaluator_pairInto_9 rfl rfl (fun c9 => ?_) (fun c9 => ?_)
      · exfalso; omega
      · refine VW.aload_n (pc' := 13) d_Evaluator_pairInto_12 rfl rfl ?_
        refine VW.iload (pc' := 15) d_Evaluator_pairInto_13 rfl rfl ?_
        refine VW.iload_n (pc' := 16) d_Evaluator_pairInto_15 rfl rfl ?_
        refine VW.cV (ci := 5) (T := T5) (N := 3) (pc' := 19) d_Evaluator_pairInto_16 rfl mv_Relation_cell lk_Evaluator_135 rfl (by first | exact hO.1 | exact hO.2.2 | exact hE.1 | exact hE.2.2 | assumption) rfl rfl rfl (Nat.le_refl _) (Nat.le_refl _) (sp_Relation_cell hE (by rw [tw]; omega)) rfl rfl ?_
        refine VW.iload (pc' := 21) d_Evaluator_pairInto_19 rfl rfl ?_
        refine VW.aload_n (pc' := 22) d_Evaluator_pairInto_21 rfl rfl ?_
        refine VW.iload (pc' := 24) d_Evaluator_pairInto_22 rfl rfl ?_
        refine VW.iload (pc' := 26) d_Evaluator_pairInto_24 rfl rfl ?_
        refine VW.cV (ci := 5) (T := T5) (N := 3) (pc' := 29) d_Evaluator_pairInto_26 rfl mv_Relation_cell lk_Evaluator_135 rfl (by first | exact hO.1 | exact hO.2.2 | exact hE.1 | exact hE.2.2 | assumption) rfl rfl rfl (Nat.le_refl _) (Nat.le_refl _) (sp_Relation_cell hE (by rw [tw]; omega)) rfl rfl ?_
        refine VW.cSN (host := "RowForge") (pc' := 32) d_Evaluator_pairInto_29 rfl ms_F_compared (by decide) rfl rfl rfl (Nat.le_refl _) (Nat.le_refl _) (sp_F_compared) rfl rfl ?_
        refine VW.iload (pc' := 34) d_Evaluator_pairInto_32 rfl rfl ?_
        refine VW.if_eq (tgt := 41) (pc' := 37) d_Evaluator_pairInto_34 rfl rfl (fun c34 => ?_) (fun c34 => ?_)
        · try have e34 := bIe c34
          refine VW.iconst (pc' := 42) d_Evaluator_pairInto_41 rfl (by decide) ?_
          refine VW.icmp_ne (tgt := 52) (pc' := 45) d_Evaluator_pairInto_42 rfl rfl (fun c42 => ?_) (fun c42 => ?_)
          · refine VW.iinc (pc' := 55) d_Evaluator_pairInto_52 rfl rfl rfl (by omega) ?_
            refine VW.goto (pc' := 3) d_Evaluator_pairInto_55 rfl ?_
            refine VW.pick [0, 1, 2, 3, 4, 5, 6, 7] ?_
            first | exact sk (pn (by rw [if_pos c34]; exact c42)) q3 | exact sk (pn (by rw [if_neg c34]; exact c42)) q3 | exact ad (py (by rw [if_pos c34]; exact c42)) q3 | exact ad (py (by rw [if_neg c34]; exact c42)) q3
          · refine VW.aload_n (pc' := 46) d_Evaluator_pairInto_45 rfl rfl ?_
            refine VW.aload_n (pc' := 47) d_Evaluator_pairInto_46 rfl rfl ?_
            refine VW.iload (pc' := 49) d_Evaluator_pairInto_47 rfl rfl ?_
            refine VW.cV (ci := 5) (T := T5) (N := 3) (pc' := 52) d_Evaluator_pairInto_49 rfl mv_Relation_addRow lk_Evaluator_64 rfl (by first | exact hO.1 | exact hO.2.2 | exact hE.1 | exact hE.2.2 | assumption) rfl rfl rfl (Nat.le_refl _) (Nat.le_refl _) (sp_Relation_addRow hO hE g1 g2 g3) rfl rfl ?_
            refine VW.iinc (pc' := 55) d_Evaluator_pairInto_52 rfl rfl rfl (by omega) ?_
            refine VW.goto (pc' := 3) d_Evaluator_pairInto_55 rfl ?_
            refine VW.pick [0, 1, 2, 3, 4, 5, 6, 7] ?_
            first | exact sk (pn (by rw [if_pos c34]; exact c42)) q3 | exact sk (pn (by rw [if_neg c34]; exact c42)) q3 | exact ad (py (by rw [if_pos c34]; exact c42)) q3 | exact ad (py (by rw [if_neg c34]; exact c42)) q3
        · try have e34 := bIn c34
          refine VW.iconst (pc' := 38) d_Evaluator_pairInto_37 rfl (by decide) ?_
          refine VW.goto (pc' := 42) d_Evaluator_pairInto_38 rfl ?_
          refine VW.icmp_ne (tgt := 52) (pc' := 45) d_Evaluator_pairInto_42 rfl rfl (fun c42 => ?_) (fun c42 => ?_)
          · refine VW.iinc (pc' := 55) d_Evaluator_pairInto_52 rfl rfl rfl (by omega) ?_
            refine VW.goto (pc' := 3) d_Evaluator_pairInto_55 rfl ?_
            refine VW.pick [0, 1, 2, 3, 4, 5, 6, 7] ?_
            first | exact sk (pn (by rw [if_pos c34]; exact c42)) q3 | exact sk (pn (by rw [if_neg c34]; exact c42)) q3 | exact ad (py (by rw [if_pos c34]; exact c42)) q3 | exact ad (py (by rw [if_neg c34]; exact c42)) q3
          · refine VW.aload_n (pc' := 46) d_Evaluator_pairInto_45 rfl rfl ?_
            refine VW.aload_n (pc' := 47) d_Evaluator_pairInto_46 rfl rfl ?_
            refine VW.iload (pc' := 49) d_Evaluator_pairInto_47 rfl rfl ?_
            refine VW.cV (ci := 5) (T := T5) (N := 3) (pc' := 52) d_Evaluator_pairInto_49 rfl mv_Relation_addRow lk_Evaluator_64 rfl (by first | exact hO.1 | exact hO.2.2 | exact hE.1 | exact hE.2.2 | assumption) rfl rfl rfl (Nat.le_refl _) (Nat.le_refl _) (sp_Relation_addRow hO hE g1 g2 g3) rfl rfl ?_
            refine VW.iinc (pc' := 55) d_Evaluator_pairInto_52 rfl rfl rfl (by omega) ?_
            refine VW.goto (pc' := 3) d_Evaluator_pairInto_55 rfl ?_
            refine VW.pick [0, 1, 2, 3, 4, 5, 6, 7] ?_
            first | exact sk (pn (by rw [if_pos c34]; exact c42)) q3 | exact sk (pn (by rw [if_neg c34]; exact c42)) q3 | exact ad (py (by rw [if_pos c34]; exact c42)) q3 | exact ad (py (by rw [if_neg c34]; exact c42)) q3
  have l := loop L.length 0 I (by omega) ⟨h0, fun _ _ _ _ => rfl, fun _ _ => rfl, by
    have e : (I v 6 = 1 ∨ ∃ r ∈ L.take 0, stayF 2 a b r) = (I v 6 = 1) := propext ⟨fun z => z.elim id (fun ⟨r, a, _⟩ => absurd a (by simp)), Or.inl⟩
    rw [e]
    rcases hf with z | z
    · rw [z]; exact (bI0 (by decide)).symm
    · rw [z]; exact (bI1 rfl).symm⟩
  clear loop
  refine VW.iconst (pc' := 1) d_Evaluator_pairInto_0 rfl (by decide) ?_
  refine VW.istore (pc' := 3) d_Evaluator_pairInto_1 rfl rfl ?_
  refine VW.nrm ?_
  exact l
theorem sp_Evaluator_ratioInto {v eo co ei ci w : Nat} {a b c : Int} {L : List (List Int)} (hv : K v = some (1, 0)) (hA : ReA K P eo co ei ci) (hR : RelR I ei ci w L) (h0 : RelR I eo co w []) (hw : w ≤ 10) (hL : L.length ≤ 512) (ha : 0 ≤ a ∧ a < w) (hb : 0 ≤ b ∧ b < w) (hf : I v 6 = 0 ∨ I v 6 = 1) : Sp m_Evaluator_ratioInto false (rmv 3 120) (exU K P J (.inl none) (fun T => RelR T eo co w (flt (stayP 3 a b c 0) L) ∧ (∀ o, o ≠ eo → o ≠ co → o ≠ v → T o = I o) ∧ (∀ q, q ≠ 6 → T v q = I v q) ∧ T v 6 = bI (I v 6 = 1 ∨ ∃ r ∈ L, stayF 3 a b r))) K P J I [vR (some v), vR (some eo), vR (some ei), vI a, vI b, vI c] := by
  refine Sp.ofV (by decide) (Or.inr rfl) rfl ?_
  obtain ⟨hO, hE, ne, nc⟩ := id hA
  have hve : v ≠ eo := fun z => by have := hv.symm.trans (z ▸ hO.1); cases this
  have hvi : v ≠ ei := fun z => by have := hv.symm.trans (z ▸ hE.1); cases this
  have hvc : v ≠ co := fun z => by have := hv.symm.trans (z ▸ hO.2.2); cases this
  have hvd : v ≠ ci := fun z => by have := hv.symm.trans (z ▸ hE.2.2); cases this
  have loop : ∀ (l k : Nat) (T : IT), k + l = L.length → FIc I T v eo co w (stayP 3 a b c 0) (stayF 3 a b) L k → VW m_Evaluator_ratioInto false (rmv 3 120) (exU K P J (.inl none) (fun T => RelR T eo co w (flt (stayP 3 a b c 0) L) ∧ (∀ o, o ≠ eo → o ≠ co → o ≠ v → T o = I o) ∧ (∀ q, q ≠ 6 → T v q = I v q) ∧ T v 6 = bI (I v 6 = 1 ∨ ∃ r ∈ L, stayF 3 a b r))) K P J T 0 0 3 [(0, vR (some v)), (1, vR (some eo)), (2, vR (some ei)), (3, vI a), (4, vI b), (5, vI c), (6, vI (k : Int))] [] := by
    intro l
    induction l with
    | zero =>
      intro k T hk h
      have ek : k = L.length := by omega
      subst ek
      have h9 := h.end'
      have tm : T ei 1 = L.length := by rw [h.2.1 ei ne.symm (hE.ne2 hO) hvi.symm]; exact hR.2.1
      refine VW.iload (pc' := 5) d_Evaluator_ratioInto_3 rfl rfl ?_
      refine VW.aload_n (pc' := 6) d_Evaluator_ratioInto_5 rfl rfl ?_
      refine VW.gI (ci := 5) (T := T5) (N := 3) (k := 1) (k' := 1) (pc' := 9) d_Evaluator_ratioInto_6 rfl lk_Evaluator_61 in5 rfl rfl rfl rfl (by first | exact hO.1 | exact hO.2.2 | exact hE.1 | exact hE.2.2 | assumption) (by first | exact hO.2.1 | exact hE.2.1 | exact tm | rfl) ?_
      refine VW.icmp_ge (tgt := 84) (pc' := 12) d_Evaluator_ratioInto_9 rfl rfl (fun c9 => ?_) (fun c9 => ?_)
      · exact VW.vret d_Evaluator_ratioInto_84 rfl (Nat.zero_le _) (Nat.zero_le _) (⟨rfl, rfl, rfl, rfl, h9⟩)
      · exfalso; omega
    | succ l ih =>
      intro k T hk h
      have te : T ei = I ei := h.2.1 ei ne.symm (hE.ne2 hO) hvi.symm
      have td : T ci = I ci := h.2.1 ci (fun z => hO.ne2 hE z.symm) nc.symm hvd.symm
      have tm : T ei 1 = L.length := by rw [te]; exact hR.2.1
      have tw : T ei 2 = w := by rw [te]; exact hR.1
      have m1 := relMul (w := w) (m := k) hw (by omega)
      have fl : (flt (stayP 3 a b c 0) (L.take k)).length ≤ k := Nat.le_trans flt_len (by rw [List.length_take]; omega)
      have m2 := relMul (w := w) (m := (flt (stayP 3 a b c 0) (L.take k)).length) hw (by omega)
      have to1 : T eo 1 = _ := h.1.2.1
      have to2 : T eo 2 = w := h.1.1
      have g1 : T eo 1 < 512 := by rw [to1]; omega
      have g2 : 0 ≤ T eo 1 * T eo 2 ∧ 0 ≤ T eo 2 ∧ T eo 1 * T eo 2 + T eo 2 ≤ (5120 : Nat) ∧ (5120 : Nat) ≤ 524288 ∧ 0 ≤ T eo 1 := by rw [to1, to2]; omega
      have g3 : 0 ≤ (k : Int) * T ei 2 ∧ (k : Int) * T ei 2 + T eo 2 ≤ (5120 : Nat) ∧ (5120 : Nat) ≤ 524288 := by rw [tw, to2]; omega
      have hrow := hR.row (k := k) (by omega)
      rw [Int.mul_comm] at hrow
      have cel : ∀ c : Int, 0 ≤ c → c < w → nth (rowAt I ci ((k : Int) * (w : Int)) w) c = T ci ((k : Int) * T ei 2 + c) := fun c c0 c1 => by rw [nth_rowAt c0 c1, td, tw]
      have k1 : ((k + 1 : Nat) : Int) = (k : Int) + 1 := by omega
      have sk : ¬ stayP 3 a b c 0 (rowAt I ci ((k : Int) * (w : Int)) w) → ¬ stayF 3 a b (rowAt I ci ((k : Int) * (w : Int)) w) → VW m_Evaluator_ratioInto false (rmv 3 120) (exU K P J (.inl none) (fun T => RelR T eo co w (flt (stayP 3 a b c 0) L) ∧ (∀ o, o ≠ eo → o ≠ co → o ≠ v → T o = I o) ∧ (∀ q, q ≠ 6 → T v q = I v q) ∧ T v 6 = bI (I v 6 = 1 ∨ ∃ r ∈ L, stayF 3 a b r))) K P J T 0 0 3 [(0, vR (some v)), (1, vR (some eo)), (2, vR (some ei)), (3, vI a), (4, vI b), (5, vI c), (6, vI ((k : Int) + 1))] [] := fun z z2 => by
        have h := ih (k + 1) T (by omega) (h.no hrow z z2)
        rw [k1] at h; exact h
      have ad : stayP 3 a b c 0 (rowAt I ci ((k : Int) * (w : Int)) w) → ¬ stayF 3 a b (rowAt I ci ((k : Int) * (w : Int)) w) → VW m_Evaluator_ratioInto false (rmv 3 120) (exU K P J (.inl none) (fun T => RelR T eo co w (flt (stayP 3 a b c 0) L) ∧ (∀ o, o ≠ eo → o ≠ co → o ≠ v → T o = I o) ∧ (∀ q, q ≠ 6 → T v q = I v q) ∧ T v 6 = bI (I v 6 = 1 ∨ ∃ r ∈ L, stayF 3 a b r))) K P J (up2 (cpyI T ci ((k : Int) * T ei 2) co (T eo 1 * T eo 2) (T eo 2)) eo 1 (T eo 1 + 1)) 0 0 3 [(0, vR (some v)), (1, vR (some eo)), (2, vR (some ei)), (3, vI a), (4, vI b), (5, vI c), (6, vI ((k : Int) + 1))] [] := fun z z2 => by
        have h := ih (k + 1) _ (by omega) (h.yes hA ⟨hve, hvc, hvd⟩ hrow rfl z z2)
        rw [k1, ← tw] at h; exact h
      have fa : ¬ stayP 3 a b c 0 (rowAt I ci ((k : Int) * (w : Int)) w) → stayF 3 a b (rowAt I ci ((k : Int) * (w : Int)) w) → VW m_Evaluator_ratioInto false (rmv 3 120) (exU K P J (.inl none) (fun T => RelR T eo co w (flt (stayP 3 a b c 0) L) ∧ (∀ o, o ≠ eo → o ≠ co → o ≠ v → T o = I o) ∧ (∀ q, q ≠ 6 → T v q = I v q) ∧ T v 6 = bI (I v 6 = 1 ∨ ∃ r ∈ L, stayF 3 a b r))) K P J (up2 T v 6 1) 0 0 3 [(0, vR (some v)), (1, vR (some eo)), (2, vR (some ei)), (3, vI a), (4, vI b), (5, vI c), (6, vI ((k : Int) + 1))] [] := fun z z2 => by
        have h := ih (k + 1) _ (by omega) (h.fail ⟨hve, hvc⟩ hrow z z2)
        rw [k1] at h; exact h
      have eA := cel a ha.1 ha.2
      have eB := cel b hb.1 hb.2
      have q3 : (T ci ((k : Int) * T ei 2 + a) = -2147483648 ∨ T ci ((k : Int) * T ei 2 + b) = -2147483648 ∨ T ci ((k : Int) * T ei 2 + b) ≠ 0) → ¬ stayF 3 a b (rowAt I ci ((k : Int) * (w : Int)) w) := fun z y => by
        obtain ⟨-, y1, y2, y3⟩ := y
        rw [eA] at y1
        rw [eB] at y2 y3
        rcases z with z | z | z <;> contradiction
      have q4 : T ci ((k : Int) * T ei 2 + a) ≠ -2147483648 → T ci ((k : Int) * T ei 2 + b) ≠ -2147483648 → T ci ((k : Int) * T ei 2 + b) = 0 → stayF 3 a b (rowAt I ci ((k : Int) * (w : Int)) w) := fun z1 z2 z3 => ⟨rfl, by rw [eA]; exact z1, by rw [eB]; exact z2, by rw [eB]; exact z3⟩
      have py : T ci ((k : Int) * T ei 2 + a) ≠ -2147483648 → T ci ((k : Int) * T ei 2 + b) ≠ -2147483648 → T ci ((k : Int) * T ei 2 + b) ≠ 0 → (T ci ((k : Int) * T ei 2 + a)).tdiv (T ci ((k : Int) * T ei 2 + b)) = c → stayP 3 a b c 0 (rowAt I ci ((k : Int) * (w : Int)) w) := fun z1 z2 z3 z4 => Or.inl ⟨rfl, by rw [eA]; exact z1, by rw [eB]; exact z2, by rw [eB]; exact z3, by rw [eA, eB]; exact z4⟩
      have pn : (T ci ((k : Int) * T ei 2 + a) = -2147483648 ∨ T ci ((k : Int) * T ei 2 + b) = -2147483648 ∨ T ci ((k : Int) * T ei 2 + b) = 0 ∨ (T ci ((k : Int) * T ei 2 + a)).tdiv (T ci ((k : Int) * T ei 2 + b)) ≠ c) → ¬ stayP 3 a b c 0 (rowAt I ci ((k : Int) * (w : Int)) w) := fun z y => by
        rcases y with ⟨-, y1, y2, y3, y4⟩ | y | y
        · rw [eA] at y1
          rw [eB] at y2 y3
          rw [eA, eB] at y4
          rcases z with z | z | z | z <;> contradiction
        · exact y.1 rfl
        · exact y.1 rfl
      refine VW.know (fun hwf hws hwl => ?_)
      have ra := hwf.1 ci ((k : Int) * T ei 2 + a)
      have dv := fun z => tdivR (b := T ci ((k : Int) * T ei 2 + b)) ra z
      clear ih
      refine VW.iload (pc' := 5) d_Evaluator_ratioInto_3 rfl rfl ?_
      refine VW.aload_n (pc' := 6) d_Evaluator_ratioInto_5 rfl rfl ?_
      refine VW.gI (ci := 5) (T := T5) (N := 3) (k := 1) (k' := 1) (pc' := 9) d_Evaluator_ratioInto_6 rfl lk_Evaluator_61 in5 rfl rfl rfl rfl (by first | exact hO.1 | exact hO.2.2 | exact hE.1 | exact hE.2.2 | assumption) (by first | exact hO.2.1 | exact hE.2.1 | exact tm | rfl) ?_
      refine VW.icmp_ge (tgt := 84) (pc' := 12) d_Evaluator_ratioInto_9 rfl rfl (fun c9 => ?_) (fun c9 => ?_)
      · exfalso; omega
      · refine VW.aload_n (pc' := 13) d_Evaluator_ratioInto_12 rfl rfl ?_
        refine VW.iload (pc' := 15) d_Evaluator_ratioInto_13 rfl rfl ?_
        refine VW.iload_n (pc' := 16) d_Evaluator_ratioInto_15 rfl rfl ?_
        refine VW.cV (ci := 5) (T := T5) (N := 3) (pc' := 19) d_Evaluator_ratioInto_16 rfl mv_Relation_cell lk_Evaluator_135 rfl (by first | exact hO.1 | exact hO.2.2 | exact hE.1 | exact hE.2.2 | assumption) rfl rfl rfl (Nat.le_refl _) (Nat.le_refl _) (sp_Relation_cell hE (by rw [tw]; omega)) rfl rfl ?_
        refine VW.istore (pc' := 21) d_Evaluator_ratioInto_19 rfl rfl ?_
        refine VW.aload_n (pc' := 22) d_Evaluator_ratioInto_21 rfl rfl ?_
        refine VW.iload (pc' := 24) d_Evaluator_ratioInto_22 rfl rfl ?_
        refine VW.iload (pc' := 26) d_Evaluator_ratioInto_24 rfl rfl ?_
        refine VW.cV (ci := 5) (T := T5) (N := 3) (pc' := 29) d_Evaluator_ratioInto_26 rfl mv_Relation_cell lk_Evaluator_135 rfl (by first | exact hO.1 | exact hO.2.2 | exact hE.1 | exact hE.2.2 | assumption) rfl rfl rfl (Nat.le_refl _) (Nat.le_refl _) (sp_Relation_cell hE (by rw [tw]; omega)) rfl rfl ?_
        refine VW.istore (pc' := 31) d_Evaluator_ratioInto_29 rfl rfl ?_
        refine VW.iload (pc' := 33) d_Evaluator_ratioInto_31 rfl rfl ?_
        refine VW.ldc (pc' := 35) (z := -2147483648) d_Evaluator_ratioInto_33 rfl lk_Evaluator_103 (by decide) (by decide) ?_
        refine VW.icmp_eq (tgt := 78) (pc' := 38) d_Evaluator_ratioInto_35 rfl rfl (fun c35 => ?_) (fun c35 => ?_)
        · refine VW.iinc (pc' := 81) d_Evaluator_ratioInto_78 rfl rfl rfl (by omega) ?_
          refine VW.goto (pc' := 3) d_Evaluator_ratioInto_81 rfl ?_
          refine VW.pick [0, 1, 2, 3, 4, 5, 6] ?_
          first | exact sk (pn (Or.inl c35)) (q3 (Or.inl c35)) | exact sk (pn (Or.inr (Or.inl c42))) (q3 (Or.inr (Or.inl c42))) | exact fa (pn (Or.inr (Or.inr (Or.inl c50)))) (q4 c35 c42 c50) | exact sk (pn (Or.inr (Or.inr (Or.inr c68)))) (q3 (Or.inr (Or.inr c50))) | exact ad (py c35 c42 c50 c68) (q3 (Or.inr (Or.inr c50)))
        · refine VW.iload (pc' := 40) d_Evaluator_ratioInto_38 rfl rfl ?_
          refine VW.ldc (pc' := 42) (z := -2147483648) d_Evaluator_ratioInto_40 rfl lk_Evaluator_103 (by decide) (by decide) ?_
          refine VW.icmp_ne (tgt := 48) (pc' := 45) d_Evaluator_ratioInto_42 rfl rfl (fun c42 => ?_) (fun c42 => ?_)
          · refine VW.iload (pc' := 50) d_Evaluator_ratioInto_48 rfl rfl ?_
            refine VW.if_ne (tgt := 61) (pc' := 53) d_Evaluator_ratioInto_50 rfl rfl (fun c50 => ?_) (fun c50 => ?_)
            · try have e50 := bIn c50
              refine VW.iload (pc' := 63) d_Evaluator_ratioInto_61 rfl rfl ?_
              refine VW.iload (pc' := 65) d_Evaluator_ratioInto_63 rfl rfl ?_
              refine VW.idiv (pc' := 66) d_Evaluator_ratioInto_65 rfl (by omega) (dv c35) ?_
              refine VW.iload (pc' := 68) d_Evaluator_ratioInto_66 rfl rfl ?_
              refine VW.icmp_ne (tgt := 78) (pc' := 71) d_Evaluator_ratioInto_68 rfl rfl (fun c68 => ?_) (fun c68 => ?_)
              · refine VW.iinc (pc' := 81) d_Evaluator_ratioInto_78 rfl rfl rfl (by omega) ?_
                refine VW.goto (pc' := 3) d_Evaluator_ratioInto_81 rfl ?_
                refine VW.pick [0, 1, 2, 3, 4, 5, 6] ?_
                first | exact sk (pn (Or.inl c35)) (q3 (Or.inl c35)) | exact sk (pn (Or.inr (Or.inl c42))) (q3 (Or.inr (Or.inl c42))) | exact fa (pn (Or.inr (Or.inr (Or.inl c50)))) (q4 c35 c42 c50) | exact sk (pn (Or.inr (Or.inr (Or.inr c68)))) (q3 (Or.inr (Or.inr c50))) | exact ad (py c35 c42 c50 c68) (q3 (Or.inr (Or.inr c50)))
              · refine VW.aload_n (pc' := 72) d_Evaluator_ratioInto_71 rfl rfl ?_
                refine VW.aload_n (pc' := 73) d_Evaluator_ratioInto_72 rfl rfl ?_
                refine VW.iload (pc' := 75) d_Evaluator_ratioInto_73 rfl rfl ?_
                refine VW.cV (ci := 5) (T := T5) (N := 3) (pc' := 78) d_Evaluator_ratioInto_75 rfl mv_Relation_addRow lk_Evaluator_64 rfl (by first | exact hO.1 | exact hO.2.2 | exact hE.1 | exact hE.2.2 | assumption) rfl rfl rfl (Nat.le_refl _) (Nat.le_refl _) (sp_Relation_addRow hO hE g1 g2 g3) rfl rfl ?_
                refine VW.iinc (pc' := 81) d_Evaluator_ratioInto_78 rfl rfl rfl (by omega) ?_
                refine VW.goto (pc' := 3) d_Evaluator_ratioInto_81 rfl ?_
                refine VW.pick [0, 1, 2, 3, 4, 5, 6] ?_
                first | exact sk (pn (Or.inl c35)) (q3 (Or.inl c35)) | exact sk (pn (Or.inr (Or.inl c42))) (q3 (Or.inr (Or.inl c42))) | exact fa (pn (Or.inr (Or.inr (Or.inl c50)))) (q4 c35 c42 c50) | exact sk (pn (Or.inr (Or.inr (Or.inr c68)))) (q3 (Or.inr (Or.inr c50))) | exact ad (py c35 c42 c50 c68) (q3 (Or.inr (Or.inr c50)))
            · try have e50 := bIe c50
              refine VW.aload_n (pc' := 54) d_Evaluator_ratioInto_53 rfl rfl ?_
              refine VW.iconst (pc' := 55) d_Evaluator_ratioInto_54 rfl (by decide) ?_
              refine VW.pZ (ci := 1) (T := T1) (N := 7) (k := 6) (k' := 6) (ty := ty1) (pc' := 58) d_Evaluator_ratioInto_55 rfl lk_Evaluator_37 in1 tk1 nm1 rfl rfl rfl rfl rfl rfl (by omega) (by first | exact hO.1 | exact hO.2.2 | exact hE.1 | exact hE.2.2 | assumption) ?_
              refine VW.goto (pc' := 78) d_Evaluator_ratioInto_58 rfl ?_
              refine VW.iinc (pc' := 81) d_Evaluator_ratioInto_78 rfl rfl rfl (by omega) ?_
              refine VW.goto (pc' := 3) d_Evaluator_ratioInto_81 rfl ?_
              refine VW.pick [0, 1, 2, 3, 4, 5, 6] ?_
              first | exact sk (pn (Or.inl c35)) (q3 (Or.inl c35)) | exact sk (pn (Or.inr (Or.inl c42))) (q3 (Or.inr (Or.inl c42))) | exact fa (pn (Or.inr (Or.inr (Or.inl c50)))) (q4 c35 c42 c50) | exact sk (pn (Or.inr (Or.inr (Or.inr c68)))) (q3 (Or.inr (Or.inr c50))) | exact ad (py c35 c42 c50 c68) (q3 (Or.inr (Or.inr c50)))
          · refine VW.goto (pc' := 78) d_Evaluator_ratioInto_45 rfl ?_
            refine VW.iinc (pc' := 81) d_Evaluator_ratioInto_78 rfl rfl rfl (by omega) ?_
            refine VW.goto (pc' := 3) d_Evaluator_ratioInto_81 rfl ?_
            refine VW.pick [0, 1, 2, 3, 4, 5, 6] ?_
            first | exact sk (pn (Or.inl c35)) (q3 (Or.inl c35)) | exact sk (pn (Or.inr (Or.inl c42))) (q3 (Or.inr (Or.inl c42))) | exact fa (pn (Or.inr (Or.inr (Or.inl c50)))) (q4 c35 c42 c50) | exact sk (pn (Or.inr (Or.inr (Or.inr c68)))) (q3 (Or.inr (Or.inr c50))) | exact ad (py c35 c42 c50 c68) (q3 (Or.inr (Or.inr c50)))
  have l := loop L.length 0 I (by omega) ⟨h0, fun _ _ _ _ => rfl, fun _ _ => rfl, by
    have e : (I v 6 = 1 ∨ ∃ r ∈ L.take 0, stayF 3 a b r) = (I v 6 = 1) := propext ⟨fun z => z.elim id (fun ⟨r, a, _⟩ => absurd a (by simp)), Or.inl⟩
    rw [e]
    rcases hf with z | z
    · rw [z]; exact (bI0 (by decide)).symm
    · rw [z]; exact (bI1 rfl).symm⟩
  clear loop
  refine VW.iconst (pc' := 1) d_Evaluator_ratioInto_0 rfl (by decide) ?_
  refine VW.istore (pc' := 3) d_Evaluator_ratioInto_1 rfl rfl ?_
  refine VW.nrm ?_
  exact l
end
