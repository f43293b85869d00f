section
variable {K : KT} {P : PT} {J I : IT}
/-- what spreads: more rows go, none without a reason -/
def SpT (I T : IT) : Prop := (∀ o, o ≠ 1099 → T o = I o) ∧ (∀ p, p < 0 ∨ 48 ≤ p → T 1099 p = I 1099 p) ∧ (∀ p, 0 ≤ p → p < 48 → T 1099 p = 0 ∨ T 1099 p = 1) ∧ (∀ p, I 1099 p ≠ 0 → T 1099 p ≠ 0) ∧ ∀ X : Int → Prop, (∀ p, 0 ≤ p → p < 48 → I 1099 p ≠ 0 → X p) → (∀ c, 0 ≤ c → c < 192 → I 1101 c ≠ -1 → X (I 1101 c) → I 1038 (tslot c) = 1 → X (c / 4)) → ∀ p, 0 ≤ p → p < 48 → T 1099 p ≠ 0 → X p
noncomputable def gcnt (T : IT) : Int := cntI (fun p => T 1099 p ≠ 0) 48
theorem SpT.rf (h : ∀ p, 0 ≤ p → p < 48 → I 1099 p = 0 ∨ I 1099 p = 1) : SpT I I := ⟨fun _ _ => rfl, fun _ _ => rfl, h, fun _ z => z, fun _ a _ => a⟩
theorem SpT.add {T : IT} {c : Int} (hr : (∀ c, 0 ≤ c → c < 192 → I 1101 c = -1 ∨ (0 ≤ I 1101 c ∧ I 1101 c < 48))) (h : SpT I T) (hc : 0 ≤ c ∧ c < 192) (hg : rfG T c 1) : SpT I (up2 T 1099 (c / 4) 1) ∧ gcnt T < gcnt (up2 T 1099 (c / 4) 1) := by
  obtain ⟨h1, h2, h3, h4, h5⟩ := h
  obtain ⟨g1, g2, g3, g4⟩ := hg
  have e1 : T 1101 = I 1101 := h1 1101 (by decide)
  have e2 : T 1038 = I 1038 := h1 1038 (by decide)
  have eq : ∀ p, up2 T 1099 (c / 4) 1 1099 p = if p = c / 4 then 1 else T 1099 p := fun p => by
    by_cases hp : p = c / 4
    · rw [if_pos hp, hp, up2_eq]
    · rw [if_neg hp, up2_k _ _ _ _ hp]
  have up : ∀ p, T 1099 p ≠ 0 → up2 T 1099 (c / 4) 1 1099 p ≠ 0 := fun p hp => by
    rw [eq]
    split
    · decide
    · exact hp
  refine ⟨⟨fun o ho => (funext (fun z => up2_o _ _ _ _ ho)).trans (h1 o ho), fun p hp => ?_, fun p p0 p1 => ?_, fun p hp => up p (h4 p hp), fun X a b p p0 p1 hp => ?_⟩, cntI_lt 48 (c / 4).toNat (by omega) (fun j _ => up j) ?_ ?_⟩
  · rw [eq, if_neg (by omega)]; exact h2 p hp
  · rw [eq]
    split
    · exact Or.inr rfl
    · exact h3 p p0 p1
  · rw [eq] at hp
    by_cases e : p = c / 4
    · rw [e]
      rw [e1] at g1 g2
      rw [e2] at g4
      have rg := (hr c hc.1 hc.2).resolve_left g1
      exact b c hc.1 hc.2 g1 (h5 X a b _ rg.1 rg.2 g2) g4
    · rw [if_neg e] at hp
      exact h5 X a b p p0 p1 hp
  · show ¬ T 1099 ((c / 4).toNat : Int) ≠ 0
    rw [show ((c / 4).toNat : Int) = c / 4 by omega]
    exact fun z => z g3
  · show up2 T 1099 (c / 4) 1 1099 ((c / 4).toNat : Int) ≠ 0
    rw [eq, if_pos (by omega)]; decide
/-- in a pass: c cells are done; f: something has gone in it -/
def SpI (I T0 T : IT) (c f : Int) : Prop := SpT I T ∧ ((f = 0 ∧ T = T0 ∧ ∀ j, 0 ≤ j → j < c → ¬ rfG T j 1) ∨ (f = 1 ∧ gcnt T0 < gcnt T))
theorem sp_Trial_spreadCascades (hC : ClW K P) (hr : (∀ c, 0 ≤ c → c < 192 → I 1101 c = -1 ∨ (0 ≤ I 1101 c ∧ I 1101 c < 48))) (hg : ∀ p, 0 ≤ p → p < 48 → I 1099 p = 0 ∨ I 1099 p = 1) : Sp m_Trial_spreadCascades false (rmv 2 50) (exU K P J (.inl none) (fun T => SpT I T ∧ ∀ c, 0 ≤ c → c < 192 → ¬ rfG T c 1)) K P J I [vR (some 1096)] := by
  refine Sp.ofV (by decide) (Or.inr rfl) rfl ?_
  have outer : ∀ (w : Nat) (p : Int) (T : IT) (f : Int), p + w = 49 → 0 ≤ p → SpT I T → ((f = 0 ∧ ∀ c, 0 ≤ c → c < 192 → ¬ rfG T c 1) ∨ (f = 1 ∧ p ≤ gcnt T)) → VW m_Trial_spreadCascades false (rmv 2 50) (exU K P J (.inl none) (fun T => SpT I T ∧ ∀ c, 0 ≤ c → c < 192 → ¬ rfG T c 1)) K P J T 0 0 4 [(0, vR (some 1096)), (1, vI f), (2, vI p)] [] := by
    intro w
    induction w with
    | zero =>
      intro p T f hp h0 h hf
      have gb := (cntI_rg (fun p => T 1099 p ≠ 0) 48).2
      have hf0 := hf.resolve_right (fun z => by
        have := z.2
        unfold gcnt at this
        omega)
      have fin : SpT I T ∧ ∀ c, 0 ≤ c → c < 192 → ¬ rfG T c 1 := ⟨h, hf0.2⟩
      refine VW.iload_n (pc' := 5) d_Trial_spreadCascades_4 rfl rfl ?_
      refine VW.bipush (pc' := 7) d_Trial_spreadCascades_5 rfl (by decide) ?_
      refine VW.icmp_gt (tgt := 59) (pc' := 10) d_Trial_spreadCascades_7 rfl rfl (fun c7 => ?_) (fun c7 => ?_)
      case refine_2 => exact absurd c7 (by omega)
      exact VW.vret d_Trial_spreadCascades_59 rfl (Nat.zero_le _) (Nat.zero_le _) (⟨rfl, rfl, rfl, rfl, fin⟩)
    | succ w ih =>
      intro p T f hp h0 h hf
      by_cases f0 : f = 0
      · have hf0 := hf.resolve_right (fun z => by omega)
        have fin : SpT I T ∧ ∀ c, 0 ≤ c → c < 192 → ¬ rfG T c 1 := ⟨h, hf0.2⟩
        clear ih
        refine VW.iload_n (pc' := 5) d_Trial_spreadCascades_4 rfl rfl ?_
        refine VW.bipush (pc' := 7) d_Trial_spreadCascades_5 rfl (by decide) ?_
        refine VW.icmp_gt (tgt := 59) (pc' := 10) d_Trial_spreadCascades_7 rfl rfl (fun c7 => ?_) (fun c7 => ?_)
        case refine_1 => exact absurd c7 (by omega)
        refine VW.iload_n (pc' := 11) d_Trial_spreadCascades_10 rfl rfl ?_
        refine VW.if_eq (tgt := 59) (pc' := 14) d_Trial_spreadCascades_11 rfl rfl (fun c11 => ?_) (fun c11 => ?_)
        case refine_2 => exact absurd c11 (by omega)
        exact VW.vret d_Trial_spreadCascades_59 rfl (Nat.zero_le _) (Nat.zero_le _) (⟨rfl, rfl, rfl, rfl, fin⟩)
      · have hf1 := hf.resolve_left (fun z => f0 z.1)
        have nx := fun (T' : IT) (f' : Int) (h1 : SpT I T') (h2 : (f' = 0 ∧ ∀ c, 0 ≤ c → c < 192 → ¬ rfG T' c 1) ∨ (f' = 1 ∧ p + 1 ≤ gcnt T')) => ih (p + 1) T' f' (by omega) (by omega) h1 h2
        clear ih
        have inner : ∀ (w2 : Nat) (c : Int) (T2 : IT) (f2 : Int), c + w2 = 192 → 0 ≤ c → SpI I T T2 c f2 → VW m_Trial_spreadCascades false (rmv 2 50) (exU K P J (.inl none) (fun T => SpT I T ∧ ∀ c, 0 ≤ c → c < 192 → ¬ rfG T c 1)) K P J T2 0 0 18 [(0, vR (some 1096)), (1, vI f2), (2, vI p), (3, vI c)] [] := by
          intro w2
          induction w2 with
          | zero =>
            intro c T2 f2 hc c0 g
            have n9 := nx T2 f2 g.1 (g.2.elim (fun z => Or.inl ⟨z.1, fun j j0 j1 => z.2.2 j j0 (by omega)⟩) (fun z => Or.inr ⟨z.1, by have := z.2; have := hf1.2; omega⟩))
            clear nx
            refine VW.iload_n (pc' := 19) d_Trial_spreadCascades_18 rfl rfl ?_
            refine VW.aload_n (pc' := 20) d_Trial_spreadCascades_19 rfl rfl ?_
            refine VW.gP (ci := 9) (T := T9) (N := 8) (k := 4) (k' := 4) (pc' := 23) d_Trial_spreadCascades_20 rfl lk_Trial_25 in9 rfl rfl rfl rfl (by first | exact hC.k 13 rfl | exact hC.k 14 rfl | exact hC.k 15 rfl | exact hC.k 16 rfl | exact hC.k 17 rfl | exact hC.k 18 rfl | exact hC.k 19 rfl | exact hC.k 20 rfl | exact hC.k 2 rfl | exact hC.k 3 rfl | exact hC.k 6 rfl | exact hC.k 7 rfl) (by first | exact hC.p 22 rfl | exact hC.p 23 rfl | exact hC.p 24 rfl | exact hC.p 25 rfl | exact hC.p 26 rfl | exact hC.p 27 rfl | exact hC.p 28 rfl | exact hC.p 29 rfl | exact hC.p 9 rfl | exact hC.p 12 rfl | exact hC.p 13 rfl | rfl) ?_
            refine VW.alen (pc' := 24) d_Trial_spreadCascades_23 rfl (by first | exact hC.k 13 rfl | exact hC.k 14 rfl | exact hC.k 15 rfl | exact hC.k 16 rfl | exact hC.k 17 rfl | exact hC.k 18 rfl | exact hC.k 19 rfl | exact hC.k 20 rfl | exact hC.k 2 rfl | exact hC.k 3 rfl | exact hC.k 6 rfl | exact hC.k 7 rfl) (by simp) (by omega) ?_
            refine VW.icmp_ge (tgt := 53) (pc' := 27) d_Trial_spreadCascades_24 rfl rfl (fun c24 => ?_) (fun c24 => ?_)
            case refine_2 => exact absurd c24 (by omega)
            refine VW.iinc (pc' := 56) d_Trial_spreadCascades_53 rfl rfl rfl (by omega) ?_
            refine VW.goto (pc' := 4) d_Trial_spreadCascades_56 rfl ?_
            refine VW.pick [0, 1, 2] ?_
            exact n9
          | succ w2 ih2 =>
            intro c T2 f2 hc c0 g
            have cc : 0 ≤ c ∧ c < 192 := ⟨c0, by omega⟩
            have e1 : c.tdiv 4 = c / 4 := Int.tdiv_eq_ediv_of_nonneg c0
            have r2 : T2 1101 c = -1 ∨ (0 ≤ T2 1101 c ∧ T2 1101 c < 48) := by rw [g.1.1 1101 (by decide)]; exact hr c c0 cc.2
            have yes := fun (z : rfG T2 c 1) => ih2 (c + 1) (up2 T2 1099 (c / 4) 1) 1 (by omega) (by omega) ⟨(g.1.add hr cc z).1, Or.inr ⟨rfl, by
              have := (g.1.add hr cc z).2
              rcases g.2 with y | y
              · rw [← y.2.1]; exact this
              · have := y.2; omega⟩⟩
            have no := fun (z : ¬ rfG T2 c 1) => ih2 (c + 1) T2 f2 (by omega) (by omega) ⟨g.1, g.2.elim (fun y => Or.inl ⟨y.1, y.2.1, fun j j0 j1 => by
              by_cases e : j = c
              · rw [e]; exact z
              · exact y.2.2 j j0 (by omega)⟩) Or.inr⟩
            clear ih2 nx
            refine VW.iload_n (pc' := 19) d_Trial_spreadCascades_18 rfl rfl ?_
            refine VW.aload_n (pc' := 20) d_Trial_spreadCascades_19 rfl rfl ?_
            refine VW.gP (ci := 9) (T := T9) (N := 8) (k := 4) (k' := 4) (pc' := 23) d_Trial_spreadCascades_20 rfl lk_Trial_25 in9 rfl rfl rfl rfl (by first | exact hC.k 13 rfl | exact hC.k 14 rfl | exact hC.k 15 rfl | exact hC.k 16 rfl | exact hC.k 17 rfl | exact hC.k 18 rfl | exact hC.k 19 rfl | exact hC.k 20 rfl | exact hC.k 2 rfl | exact hC.k 3 rfl | exact hC.k 6 rfl | exact hC.k 7 rfl) (by first | exact hC.p 22 rfl | exact hC.p 23 rfl | exact hC.p 24 rfl | exact hC.p 25 rfl | exact hC.p 26 rfl | exact hC.p 27 rfl | exact hC.p 28 rfl | exact hC.p 29 rfl | exact hC.p 9 rfl | exact hC.p 12 rfl | exact hC.p 13 rfl | rfl) ?_
            refine VW.alen (pc' := 24) d_Trial_spreadCascades_23 rfl (by first | exact hC.k 13 rfl | exact hC.k 14 rfl | exact hC.k 15 rfl | exact hC.k 16 rfl | exact hC.k 17 rfl | exact hC.k 18 rfl | exact hC.k 19 rfl | exact hC.k 20 rfl | exact hC.k 2 rfl | exact hC.k 3 rfl | exact hC.k 6 rfl | exact hC.k 7 rfl) (by simp) (by omega) ?_
            refine VW.icmp_ge (tgt := 53) (pc' := 27) d_Trial_spreadCascades_24 rfl rfl (fun c24 => ?_) (fun c24 => ?_)
            case refine_1 => exact absurd c24 (by omega)
            refine VW.aload_n (pc' := 28) d_Trial_spreadCascades_27 rfl rfl ?_
            refine VW.iload_n (pc' := 29) d_Trial_spreadCascades_28 rfl rfl ?_
            refine VW.iconst (pc' := 30) d_Trial_spreadCascades_29 rfl (by decide) ?_
            refine VW.cV (ci := 9) (T := T9) (N := 8) (pc' := 33) d_Trial_spreadCascades_30 rfl mv_Trial_refersToGone lk_Trial_162 rfl (by first | exact hC.k 13 rfl | exact hC.k 14 rfl | exact hC.k 15 rfl | exact hC.k 16 rfl | exact hC.k 17 rfl | exact hC.k 18 rfl | exact hC.k 19 rfl | exact hC.k 20 rfl | exact hC.k 2 rfl | exact hC.k 3 rfl | exact hC.k 6 rfl | exact hC.k 7 rfl) rfl rfl rfl (Nat.le_refl _) (Nat.le_refl _) (sp_Trial_refersToGone hC cc r2) rfl rfl ?_
            refine VW.if_eq (tgt := 47) (pc' := 36) d_Trial_spreadCascades_33 rfl rfl (fun c33 => ?_) (fun c33 => ?_)
            · try have e33 := bIe c33
              refine VW.iinc (pc' := 50) d_Trial_spreadCascades_47 rfl rfl rfl (by omega) ?_
              refine VW.goto (pc' := 18) d_Trial_spreadCascades_50 rfl ?_
              refine VW.pick [0, 1, 2, 3] ?_
              first | exact yes (bIn c33) | exact no (bIe c33)
            · try have e33 := bIn c33
              refine VW.aload_n (pc' := 37) d_Trial_spreadCascades_36 rfl rfl ?_
              refine VW.gP (ci := 9) (T := T9) (N := 8) (k := 2) (k' := 2) (pc' := 40) d_Trial_spreadCascades_37 rfl lk_Trial_18 in9 rfl rfl rfl rfl (by first | exact hC.k 13 rfl | exact hC.k 14 rfl | exact hC.k 15 rfl | exact hC.k 16 rfl | exact hC.k 17 rfl | exact hC.k 18 rfl | exact hC.k 19 rfl | exact hC.k 20 rfl | exact hC.k 2 rfl | exact hC.k 3 rfl | exact hC.k 6 rfl | exact hC.k 7 rfl) (by first | exact hC.p 22 rfl | exact hC.p 23 rfl | exact hC.p 24 rfl | exact hC.p 25 rfl | exact hC.p 26 rfl | exact hC.p 27 rfl | exact hC.p 28 rfl | exact hC.p 29 rfl | exact hC.p 9 rfl | exact hC.p 12 rfl | exact hC.p 13 rfl | rfl) ?_
              refine VW.iload_n (pc' := 41) d_Trial_spreadCascades_40 rfl rfl ?_
              refine VW.iconst (pc' := 42) d_Trial_spreadCascades_41 rfl (by decide) ?_
              refine VW.idiv (pc' := 43) d_Trial_spreadCascades_42 rfl (by omega) (by omega) ?_
              rw [e1]
              refine VW.iconst (pc' := 44) d_Trial_spreadCascades_43 rfl (by decide) ?_
              refine VW.zast (pc' := 45) d_Trial_spreadCascades_44 rfl (by first | exact hC.k 13 rfl | exact hC.k 14 rfl | exact hC.k 15 rfl | exact hC.k 16 rfl | exact hC.k 17 rfl | exact hC.k 18 rfl | exact hC.k 19 rfl | exact hC.k 20 rfl | exact hC.k 2 rfl | exact hC.k 3 rfl | exact hC.k 6 rfl | exact hC.k 7 rfl) (by omega) (by omega) (by omega) ?_
              refine VW.iconst (pc' := 46) d_Trial_spreadCascades_45 rfl (by decide) ?_
              refine VW.istore_n (pc' := 47) d_Trial_spreadCascades_46 rfl rfl ?_
              refine VW.iinc (pc' := 50) d_Trial_spreadCascades_47 rfl rfl rfl (by omega) ?_
              refine VW.goto (pc' := 18) d_Trial_spreadCascades_50 rfl ?_
              refine VW.pick [0, 1, 2, 3] ?_
              first | exact yes (bIn c33) | exact no (bIe c33)
        have l9 := inner 192 0 T 0 (by omega) (Int.le_refl _) ⟨h, Or.inl ⟨rfl, rfl, fun j j0 j1 => by omega⟩⟩
        clear inner nx
        refine VW.iload_n (pc' := 5) d_Trial_spreadCascades_4 rfl rfl ?_
        refine VW.bipush (pc' := 7) d_Trial_spreadCascades_5 rfl (by decide) ?_
        refine VW.icmp_gt (tgt := 59) (pc' := 10) d_Trial_spreadCascades_7 rfl rfl (fun c7 => ?_) (fun c7 => ?_)
        case refine_1 => exact absurd c7 (by omega)
        refine VW.iload_n (pc' := 11) d_Trial_spreadCascades_10 rfl rfl ?_
        refine VW.if_eq (tgt := 59) (pc' := 14) d_Trial_spreadCascades_11 rfl rfl (fun c11 => ?_) (fun c11 => ?_)
        case refine_1 => exact absurd c11 (by omega)
        refine VW.iconst (pc' := 15) d_Trial_spreadCascades_14 rfl (by decide) ?_
        refine VW.istore_n (pc' := 16) d_Trial_spreadCascades_15 rfl rfl ?_
        refine VW.iconst (pc' := 17) d_Trial_spreadCascades_16 rfl (by decide) ?_
        refine VW.istore_n (pc' := 18) d_Trial_spreadCascades_17 rfl rfl ?_
        refine VW.pick [0, 1, 2, 3] ?_
        exact l9
  have l9 := outer 49 0 I 1 (by omega) (Int.le_refl _) (SpT.rf hg) (Or.inr ⟨rfl, (cntI_rg _ 48).1⟩)
  clear outer
  refine VW.iconst (pc' := 1) d_Trial_spreadCascades_0 rfl (by decide) ?_
  refine VW.istore_n (pc' := 2) d_Trial_spreadCascades_1 rfl rfl ?_
  refine VW.iconst (pc' := 3) d_Trial_spreadCascades_2 rfl (by decide) ?_
  refine VW.istore_n (pc' := 4) d_Trial_spreadCascades_3 rfl rfl ?_
  refine VW.pick [0, 1, 2] ?_
  exact l9
end
