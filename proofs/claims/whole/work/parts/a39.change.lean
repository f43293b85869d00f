section
variable {K : KT} {P : PT} {J I : IT}
/-- cells A are emptied, places B are noted as changed -/
def ChX (I T : IT) (A B : Int → Prop) : Prop := (∀ o, o ≠ 1129 → o ≠ 1100 → T o = I o) ∧ (∀ z, 0 ≤ z → z < 192 → T 1129 z = if bI (A z) = 1 then -2147483648 else I 1129 z) ∧ ∀ p, 0 ≤ p → p < 48 → (T 1100 p ≠ 0 ↔ I 1100 p ≠ 0 ∨ B p)
theorem ChX.iff {T : IT} {A A' B B' : Int → Prop} (h : ChX I T A B) (hA : ∀ z, 0 ≤ z → z < 192 → (A z ↔ A' z)) (hB : ∀ p, 0 ≤ p → p < 48 → (B p ↔ B' p)) : ChX I T A' B' := ⟨h.1, fun z a b => by rw [h.2.1 z a b, propext (hA z a b)], fun p a b => by rw [h.2.2 p a b, hB p a b]⟩
theorem ChX.rf : ChX I I (fun _ => False) (fun _ => False) := ⟨fun _ _ _ => rfl, fun z _ _ => by rw [if_neg (by rw [bI0 id]; decide)], fun p _ _ => ⟨Or.inl, fun z => z.elim id False.elim⟩⟩
theorem ChX.mk' {T T' : IT} {A B C D : Int → Prop} (h : ChX I T A B) (h1 : ∀ o, o ≠ 1129 → o ≠ 1100 → T' o = T o) (h2 : ∀ z, 0 ≤ z → z < 192 → (C z → T' 1129 z = -2147483648) ∧ (¬ C z → T' 1129 z = T 1129 z)) (h3 : ∀ p, 0 ≤ p → p < 48 → (D p → T' 1100 p ≠ 0) ∧ (¬ D p → T' 1100 p = T 1100 p)) : ChX I T' (fun z => A z ∨ C z) (fun p => B p ∨ D p) := by
  refine ⟨fun o o1 o2 => (h1 o o1 o2).trans (h.1 o o1 o2), fun z a b => ?_, fun p a b => ?_⟩
  · by_cases c : C z
    · rw [(h2 z a b).1 c, if_pos (bI1 (Or.inr c))]
    · show _ = if bI (A z ∨ C z) = 1 then _ else _
      rw [(h2 z a b).2 c, h.2.1 z a b, show (A z ∨ C z) = A z from propext ⟨fun y => y.elim id (fun w => absurd w c), Or.inl⟩]
  · by_cases c : D p
    · exact ⟨fun _ => Or.inr (Or.inr c), fun _ => (h3 p a b).1 c⟩
    · rw [(h3 p a b).2 c, h.2.2 p a b]
      exact ⟨fun y => y.elim Or.inl (fun w => Or.inr (Or.inl w)), fun y => y.elim Or.inl (fun w => w.elim Or.inr (fun v => absurd v c))⟩
theorem ChX.cell {T : IT} {A B : Int → Prop} {c : Int} (h : ChX I T A B) (hc : 0 ≤ c ∧ c < 192) : ChX I (up2 (up2 T 1129 c (-2147483648)) 1100 (c / 4) 1) (fun z => A z ∨ z = c) (fun p => B p ∨ p = c / 4) := by
  refine h.mk' (fun o o1 o2 => funext (fun z => (up2_o _ _ _ _ o2).trans (up2_o _ _ _ _ o1))) (fun z _ _ => ⟨fun e => ?_, fun e => ?_⟩) (fun p _ _ => ⟨fun e => ?_, fun e => ?_⟩)
  · rw [up2_o _ _ _ _ (by decide), e, up2_eq]
  · rw [up2_o _ _ _ _ (by decide), up2_k _ _ _ _ e]
  · rw [e, up2_eq]; decide
  · rw [up2_k _ _ _ _ e, up2_o _ _ _ _ (by decide)]
theorem ChX.place {T : IT} {A B : Int → Prop} {q : Int} (h : ChX I T A B) (hq : 0 ≤ q ∧ q < 48) : ChX I (up2 (filI T 1129 (q * 4) (q * 4 + 4) (-2147483648)) 1100 q 1) (fun z => A z ∨ z / 4 = q) (fun p => B p ∨ p = q) := by
  refine h.mk' (fun o o1 o2 => funext (fun z => (up2_o _ _ _ _ o2).trans (if_neg (fun y => o1 y.1)))) (fun z _ _ => ⟨fun e => ?_, fun e => ?_⟩) (fun p _ _ => ⟨fun e => ?_, fun e => ?_⟩)
  · rw [up2_o _ _ _ _ (by decide)]
    exact if_pos ⟨rfl, by omega, by omega⟩
  · rw [up2_o _ _ _ _ (by decide)]
    exact if_neg (fun y => e (by omega))
  · rw [e, up2_eq]; decide
  · rw [up2_k _ _ _ _ e]
    exact if_neg (fun y => absurd y.1 (by decide))
def crA (I : IT) (n : Int) (z : Int) : Prop := z < n ∧ rfG I z 2
def crB (I : IT) (n : Int) (p : Int) : Prop := ∃ c, 0 ≤ c ∧ c < n ∧ c / 4 = p ∧ rfG I c 2
def goA (I : IT) (n : Int) (z : Int) : Prop := z / 4 < n ∧ I 1099 (z / 4) ≠ 0
def goB (I : IT) (n : Int) (p : Int) : Prop := p < n ∧ I 1099 p ≠ 0
theorem sp_Trial_changeRows (hC : ClW K P) (hr : (∀ c, 0 ≤ c → c < 192 → I 1101 c = -1 ∨ (0 ≤ I 1101 c ∧ I 1101 c < 48))) : Sp m_Trial_changeRows false (rmv 3 110) (exU K P J (.inl none) (fun T => ChX I T (fun z => rfG I z 2 ∨ I 1099 (z / 4) ≠ 0) (fun p => (∃ c, 0 ≤ c ∧ c < 192 ∧ c / 4 = p ∧ rfG I c 2) ∨ I 1099 p ≠ 0))) K P J I [vR (some 1096)] := by
  refine Sp.ofV (by decide) (Or.inr rfl) rfl ?_
  have second : ∀ (w : Nat) (p : Int) (T : IT), p + w = 48 → 0 ≤ p → ChX I T (fun z => crA I 192 z ∨ goA I p z) (fun q => crB I 192 q ∨ goB I p q) → VW m_Trial_changeRows false (rmv 3 110) (exU K P J (.inl none) (fun T => ChX I T (fun z => rfG I z 2 ∨ I 1099 (z / 4) ≠ 0) (fun p => (∃ c, 0 ≤ c ∧ c < 192 ∧ c / 4 = p ∧ rfG I c 2) ∨ I 1099 p ≠ 0))) K P J T 0 0 48 [(0, vR (some 1096)), (1, vI p)] [] := by
    intro w
    induction w with
    | zero =>
      intro p T hp h0 h
      have ep : p = 48 := by omega
      subst ep
      have fin := h.iff (A' := fun z => rfG I z 2 ∨ I 1099 (z / 4) ≠ 0) (B' := fun p => (∃ c, 0 ≤ c ∧ c < 192 ∧ c / 4 = p ∧ rfG I c 2) ∨ I 1099 p ≠ 0) (fun z a b => ⟨fun y => y.elim (fun u => Or.inl u.2) (fun u => Or.inr u.2), fun y => y.elim (fun u => Or.inl ⟨b, u⟩) (fun u => Or.inr ⟨by omega, u⟩)⟩) (fun p a b => ⟨fun y => y.elim Or.inl (fun u => Or.inr u.2), fun y => y.elim Or.inl (fun u => Or.inr ⟨b, u⟩)⟩)
      refine VW.iload_n (pc' := 49) d_Trial_changeRows_48 rfl rfl ?_
      refine VW.bipush (pc' := 51) d_Trial_changeRows_49 rfl (by decide) ?_
      refine VW.icmp_ge (tgt := 84) (pc' := 54) d_Trial_changeRows_51 rfl rfl (fun c51 => ?_) (fun c51 => ?_)
      case refine_2 => exact absurd c51 (by omega)
      exact VW.vret d_Trial_changeRows_84 rfl (Nat.zero_le _) (Nat.zero_le _) (⟨rfl, rfl, rfl, rfl, fin⟩)
    | succ w ih =>
      intro p T hp h0 h
      have e9 : T 1099 p = I 1099 p := congrFun (h.1 1099 (by decide) (by decide)) p
      by_cases hg : I 1099 p = 0
      · have n9 := ih (p + 1) T (by omega) (by omega) (h.iff (fun z _ _ => ⟨fun y => y.elim Or.inl (fun u => Or.inr ⟨by have := u.1; omega, u.2⟩), fun y => y.elim Or.inl (fun u => Or.inr ⟨by
          have := u.1
          by_cases e : z / 4 = p
          · exact absurd (by rw [e]; exact hg) u.2
          · omega, u.2⟩)⟩) (fun z _ _ => ⟨fun y => y.elim Or.inl (fun u => Or.inr ⟨by have := u.1; omega, u.2⟩), fun y => y.elim Or.inl (fun u => Or.inr ⟨by
          have := u.1
          by_cases e : z = p
          · exact absurd (by rw [e]; exact hg) u.2
          · omega, u.2⟩)⟩))
        clear ih
        refine VW.iload_n (pc' := 49) d_Trial_changeRows_48 rfl rfl ?_
        refine VW.bipush (pc' := 51) d_Trial_changeRows_49 rfl (by decide) ?_
        refine VW.icmp_ge (tgt := 84) (pc' := 54) d_Trial_changeRows_51 rfl rfl (fun c51 => ?_) (fun c51 => ?_)
        case refine_1 => exact absurd c51 (by omega)
        refine VW.aload_n (pc' := 55) d_Trial_changeRows_54 rfl rfl ?_
        refine VW.gP (ci := 9) (T := T9) (N := 8) (k := 2) (k' := 2) (pc' := 58) d_Trial_changeRows_55 rfl lk_Trial_18 in9 rfl rfl rfl rfl (by first | exact hC.k 13 rfl | exact hC.k 14 rfl | exact hC.k 15 rfl | exact hC.k 16 rfl | exact hC.k 17 rfl | exact hC.k 18 rfl | exact hC.k 19 rfl | exact hC.k 20 rfl | exact hC.k 2 rfl | exact hC.k 3 rfl | exact hC.k 6 rfl | exact hC.k 7 rfl) (by first | exact hC.p 22 rfl | exact hC.p 23 rfl | exact hC.p 24 rfl | exact hC.p 25 rfl | exact hC.p 26 rfl | exact hC.p 27 rfl | exact hC.p 28 rfl | exact hC.p 29 rfl | exact hC.p 9 rfl | exact hC.p 12 rfl | exact hC.p 13 rfl | exact e9 | rfl) ?_
        refine VW.iload_n (pc' := 59) d_Trial_changeRows_58 rfl rfl ?_
        refine VW.zld (pc' := 60) d_Trial_changeRows_59 rfl (by first | exact hC.k 13 rfl | exact hC.k 14 rfl | exact hC.k 15 rfl | exact hC.k 16 rfl | exact hC.k 17 rfl | exact hC.k 18 rfl | exact hC.k 19 rfl | exact hC.k 20 rfl | exact hC.k 2 rfl | exact hC.k 3 rfl | exact hC.k 6 rfl | exact hC.k 7 rfl) (by omega) (by omega) (by first | exact hC.p 22 rfl | exact hC.p 23 rfl | exact hC.p 24 rfl | exact hC.p 25 rfl | exact hC.p 26 rfl | exact hC.p 27 rfl | exact hC.p 28 rfl | exact hC.p 29 rfl | exact hC.p 9 rfl | exact hC.p 12 rfl | exact hC.p 13 rfl | exact e9 | rfl) ?_
        refine VW.if_eq (tgt := 78) (pc' := 63) d_Trial_changeRows_60 rfl rfl (fun c60 => ?_) (fun c60 => ?_)
        case refine_2 => exact absurd c60 (by omega)
        refine VW.iinc (pc' := 81) d_Trial_changeRows_78 rfl rfl rfl (by omega) ?_
        refine VW.goto (pc' := 48) d_Trial_changeRows_81 rfl ?_
        refine VW.pick [0, 1] ?_
        exact n9
      · have n9 := ih (p + 1) _ (by omega) (by omega) ((h.place ⟨h0, by omega⟩).iff (fun z _ _ => ⟨fun y => y.elim (fun u => u.elim Or.inl (fun v => Or.inr ⟨by have := v.1; omega, v.2⟩)) (fun u => Or.inr ⟨by omega, by rw [u]; exact hg⟩), fun y => y.elim (fun u => Or.inl (Or.inl u)) (fun u => by
          by_cases e : z / 4 = p
          · exact Or.inr e
          · exact Or.inl (Or.inr ⟨by have := u.1; omega, u.2⟩))⟩) (fun z _ _ => ⟨fun y => y.elim (fun u => u.elim Or.inl (fun v => Or.inr ⟨by have := v.1; omega, v.2⟩)) (fun u => Or.inr ⟨by omega, by rw [u]; exact hg⟩), fun y => y.elim (fun u => Or.inl (Or.inl u)) (fun u => by
          by_cases e : z = p
          · exact Or.inr e
          · exact Or.inl (Or.inr ⟨by have := u.1; omega, u.2⟩))⟩))
        clear ih
        refine VW.iload_n (pc' := 49) d_Trial_changeRows_48 rfl rfl ?_
        refine VW.bipush (pc' := 51) d_Trial_changeRows_49 rfl (by decide) ?_
        refine VW.icmp_ge (tgt := 84) (pc' := 54) d_Trial_changeRows_51 rfl rfl (fun c51 => ?_) (fun c51 => ?_)
        case refine_1 => exact absurd c51 (by omega)
        refine VW.aload_n (pc' := 55) d_Trial_changeRows_54 rfl rfl ?_
        refine VW.gP (ci := 9) (T := T9) (N := 8) (k := 2) (k' := 2) (pc' := 58) d_Trial_changeRows_55 rfl lk_Trial_18 in9 rfl rfl rfl rfl (by first | exact hC.k 13 rfl | exact hC.k 14 rfl | exact hC.k 15 rfl | exact hC.k 16 rfl | exact hC.k 17 rfl | exact hC.k 18 rfl | exact hC.k 19 rfl | exact hC.k 20 rfl | exact hC.k 2 rfl | exact hC.k 3 rfl | exact hC.k 6 rfl | exact hC.k 7 rfl) (by first | exact hC.p 22 rfl | exact hC.p 23 rfl | exact hC.p 24 rfl | exact hC.p 25 rfl | exact hC.p 26 rfl | exact hC.p 27 rfl | exact hC.p 28 rfl | exact hC.p 29 rfl | exact hC.p 9 rfl | exact hC.p 12 rfl | exact hC.p 13 rfl | exact e9 | rfl) ?_
        refine VW.iload_n (pc' := 59) d_Trial_changeRows_58 rfl rfl ?_
        refine VW.zld (pc' := 60) d_Trial_changeRows_59 rfl (by first | exact hC.k 13 rfl | exact hC.k 14 rfl | exact hC.k 15 rfl | exact hC.k 16 rfl | exact hC.k 17 rfl | exact hC.k 18 rfl | exact hC.k 19 rfl | exact hC.k 20 rfl | exact hC.k 2 rfl | exact hC.k 3 rfl | exact hC.k 6 rfl | exact hC.k 7 rfl) (by omega) (by omega) (by first | exact hC.p 22 rfl | exact hC.p 23 rfl | exact hC.p 24 rfl | exact hC.p 25 rfl | exact hC.p 26 rfl | exact hC.p 27 rfl | exact hC.p 28 rfl | exact hC.p 29 rfl | exact hC.p 9 rfl | exact hC.p 12 rfl | exact hC.p 13 rfl | exact e9 | rfl) ?_
        refine VW.if_eq (tgt := 78) (pc' := 63) d_Trial_changeRows_60 rfl rfl (fun c60 => ?_) (fun c60 => ?_)
        case refine_1 => exact absurd c60 (by omega)
        refine VW.aload_n (pc' := 64) d_Trial_changeRows_63 rfl rfl ?_
        refine VW.gP (ci := 9) (T := T9) (N := 8) (k := 1) (k' := 1) (pc' := 67) d_Trial_changeRows_64 rfl lk_Trial_12 in9 rfl rfl rfl rfl (by first | exact hC.k 13 rfl | exact hC.k 14 rfl | exact hC.k 15 rfl | exact hC.k 16 rfl | exact hC.k 17 rfl | exact hC.k 18 rfl | exact hC.k 19 rfl | exact hC.k 20 rfl | exact hC.k 2 rfl | exact hC.k 3 rfl | exact hC.k 6 rfl | exact hC.k 7 rfl) (by first | exact hC.p 22 rfl | exact hC.p 23 rfl | exact hC.p 24 rfl | exact hC.p 25 rfl | exact hC.p 26 rfl | exact hC.p 27 rfl | exact hC.p 28 rfl | exact hC.p 29 rfl | exact hC.p 9 rfl | exact hC.p 12 rfl | exact hC.p 13 rfl | exact e9 | rfl) ?_
        refine VW.iload_n (pc' := 68) d_Trial_changeRows_67 rfl rfl ?_
        refine VW.cV (ci := 6) (T := T6) (N := 1) (pc' := 71) d_Trial_changeRows_68 rfl mv_Rows_remove lk_Trial_175 rfl (by first | exact hC.k 13 rfl | exact hC.k 14 rfl | exact hC.k 15 rfl | exact hC.k 16 rfl | exact hC.k 17 rfl | exact hC.k 18 rfl | exact hC.k 19 rfl | exact hC.k 20 rfl | exact hC.k 2 rfl | exact hC.k 3 rfl | exact hC.k 6 rfl | exact hC.k 7 rfl) rfl rfl rfl (Nat.le_refl _) (Nat.le_refl _) (sp_Rows_remove hC.af ⟨h0, by omega⟩) rfl rfl ?_
        refine VW.aload_n (pc' := 72) d_Trial_changeRows_71 rfl rfl ?_
        refine VW.gP (ci := 9) (T := T9) (N := 8) (k := 3) (k' := 3) (pc' := 75) d_Trial_changeRows_72 rfl lk_Trial_22 in9 rfl rfl rfl rfl (by first | exact hC.k 13 rfl | exact hC.k 14 rfl | exact hC.k 15 rfl | exact hC.k 16 rfl | exact hC.k 17 rfl | exact hC.k 18 rfl | exact hC.k 19 rfl | exact hC.k 20 rfl | exact hC.k 2 rfl | exact hC.k 3 rfl | exact hC.k 6 rfl | exact hC.k 7 rfl) (by first | exact hC.p 22 rfl | exact hC.p 23 rfl | exact hC.p 24 rfl | exact hC.p 25 rfl | exact hC.p 26 rfl | exact hC.p 27 rfl | exact hC.p 28 rfl | exact hC.p 29 rfl | exact hC.p 9 rfl | exact hC.p 12 rfl | exact hC.p 13 rfl | exact e9 | rfl) ?_
        refine VW.iload_n (pc' := 76) d_Trial_changeRows_75 rfl rfl ?_
        refine VW.iconst (pc' := 77) d_Trial_changeRows_76 rfl (by decide) ?_
        refine VW.zast (pc' := 78) d_Trial_changeRows_77 rfl (by first | exact hC.k 13 rfl | exact hC.k 14 rfl | exact hC.k 15 rfl | exact hC.k 16 rfl | exact hC.k 17 rfl | exact hC.k 18 rfl | exact hC.k 19 rfl | exact hC.k 20 rfl | exact hC.k 2 rfl | exact hC.k 3 rfl | exact hC.k 6 rfl | exact hC.k 7 rfl) (by omega) (by omega) (by omega) ?_
        refine VW.iinc (pc' := 81) d_Trial_changeRows_78 rfl rfl rfl (by omega) ?_
        refine VW.goto (pc' := 48) d_Trial_changeRows_81 rfl ?_
        refine VW.pick [0, 1] ?_
        exact n9
  have first : ∀ (w : Nat) (c : Int) (T : IT), c + w = 192 → 0 ≤ c → ChX I T (crA I c) (crB I c) → VW m_Trial_changeRows false (rmv 3 110) (exU K P J (.inl none) (fun T => ChX I T (fun z => rfG I z 2 ∨ I 1099 (z / 4) ≠ 0) (fun p => (∃ c, 0 ≤ c ∧ c < 192 ∧ c / 4 = p ∧ rfG I c 2) ∨ I 1099 p ≠ 0))) K P J T 0 0 2 [(0, vR (some 1096)), (1, vI c)] [] := by
    intro w
    induction w with
    | zero =>
      intro c T hc h0 h
      have ec : c = 192 := by omega
      subst ec
      have n9 := second 48 0 T (by omega) (Int.le_refl _) (h.iff (fun z z0 _ => ⟨Or.inl, fun y => y.elim id (fun u => by have := u.1; omega)⟩) (fun p p0 _ => ⟨Or.inl, fun y => y.elim id (fun u => by have := u.1; omega)⟩))
      clear second
      refine VW.iload_n (pc' := 3) d_Trial_changeRows_2 rfl rfl ?_
      refine VW.aload_n (pc' := 4) d_Trial_changeRows_3 rfl rfl ?_
      refine VW.gP (ci := 9) (T := T9) (N := 8) (k := 4) (k' := 4) (pc' := 7) d_Trial_changeRows_4 rfl lk_Trial_25 in9 rfl rfl rfl rfl (by first | exact hC.k 13 rfl | exact hC.k 14 rfl | exact hC.k 15 rfl | exact hC.k 16 rfl | exact hC.k 17 rfl | exact hC.k 18 rfl | exact hC.k 19 rfl | exact hC.k 20 rfl | exact hC.k 2 rfl | exact hC.k 3 rfl | exact hC.k 6 rfl | exact hC.k 7 rfl) (by first | exact hC.p 22 rfl | exact hC.p 23 rfl | exact hC.p 24 rfl | exact hC.p 25 rfl | exact hC.p 26 rfl | exact hC.p 27 rfl | exact hC.p 28 rfl | exact hC.p 29 rfl | exact hC.p 9 rfl | exact hC.p 12 rfl | exact hC.p 13 rfl | rfl) ?_
      refine VW.alen (pc' := 8) d_Trial_changeRows_7 rfl (by first | exact hC.k 13 rfl | exact hC.k 14 rfl | exact hC.k 15 rfl | exact hC.k 16 rfl | exact hC.k 17 rfl | exact hC.k 18 rfl | exact hC.k 19 rfl | exact hC.k 20 rfl | exact hC.k 2 rfl | exact hC.k 3 rfl | exact hC.k 6 rfl | exact hC.k 7 rfl) (by simp) (by omega) ?_
      refine VW.icmp_ge (tgt := 46) (pc' := 11) d_Trial_changeRows_8 rfl rfl (fun c8 => ?_) (fun c8 => ?_)
      case refine_2 => exact absurd c8 (by omega)
      refine VW.iconst (pc' := 47) d_Trial_changeRows_46 rfl (by decide) ?_
      refine VW.istore_n (pc' := 48) d_Trial_changeRows_47 rfl rfl ?_
      refine VW.pick [0, 1] ?_
      exact n9
    | succ w ih =>
      intro c T hc h0 h
      have cc : 0 ≤ c ∧ c < 192 := ⟨h0, by omega⟩
      have e1 : c.tdiv 4 = c / 4 := Int.tdiv_eq_ediv_of_nonneg h0
      have t1 := h.1 1101 (by decide) (by decide)
      have t2 := h.1 1099 (by decide) (by decide)
      have t3 := h.1 1038 (by decide) (by decide)
      have er : rfG T c 2 ↔ rfG I c 2 := by
        unfold rfG
        rw [t1, t2, t3]
      have r2 : T 1101 c = -1 ∨ (0 ≤ T 1101 c ∧ T 1101 c < 48) := by rw [t1]; exact hr c h0 cc.2
      have yes := fun (g : rfG T c 2) => ih (c + 1) _ (by omega) (by omega) ((h.cell cc).iff (A' := crA I (c + 1)) (B' := crB I (c + 1)) (fun z _ _ => ⟨fun y => y.elim (fun u => ⟨by have := u.1; omega, u.2⟩) (fun u => ⟨by omega, by rw [u]; exact er.mp g⟩), fun y => by
          by_cases e : z = c
          · exact Or.inr e
          · exact Or.inl ⟨by have := y.1; omega, y.2⟩⟩) (fun p _ _ => ⟨fun y => y.elim (fun ⟨j, a, b, d⟩ => ⟨j, a, by omega, d⟩) (fun u => ⟨c, h0, by omega, u.symm, er.mp g⟩), fun ⟨j, a, b, d, e⟩ => by
          by_cases ej : j = c
          · exact Or.inr (by rw [← ej]; exact d.symm)
          · exact Or.inl ⟨j, a, by omega, d, e⟩⟩))
      have no := fun (g : ¬ rfG T c 2) => ih (c + 1) T (by omega) (by omega) (h.iff (fun z _ _ => ⟨fun u => ⟨by have := u.1; omega, u.2⟩, fun y => by
          by_cases e : z = c
          · exact absurd (er.mpr (by rw [← e]; exact y.2)) g
          · exact ⟨by have := y.1; omega, y.2⟩⟩) (fun p _ _ => ⟨fun ⟨j, a, b, d⟩ => ⟨j, a, by omega, d⟩, fun ⟨j, a, b, d, e⟩ => by
          by_cases ej : j = c
          · exact absurd (er.mpr (by rw [← ej]; exact e)) g
          · exact ⟨j, a, by omega, d, e⟩⟩))
      clear ih second
      refine VW.iload_n (pc' := 3) d_Trial_changeRows_2 rfl rfl ?_
      refine VW.aload_n (pc' := 4) d_Trial_changeRows_3 rfl rfl ?_
      refine VW.gP (ci := 9) (T := T9) (N := 8) (k := 4) (k' := 4) (pc' := 7) d_Trial_changeRows_4 rfl lk_Trial_25 in9 rfl rfl rfl rfl (by first | exact hC.k 13 rfl | exact hC.k 14 rfl | exact hC.k 15 rfl | exact hC.k 16 rfl | exact hC.k 17 rfl | exact hC.k 18 rfl | exact hC.k 19 rfl | exact hC.k 20 rfl | exact hC.k 2 rfl | exact hC.k 3 rfl | exact hC.k 6 rfl | exact hC.k 7 rfl) (by first | exact hC.p 22 rfl | exact hC.p 23 rfl | exact hC.p 24 rfl | exact hC.p 25 rfl | exact hC.p 26 rfl | exact hC.p 27 rfl | exact hC.p 28 rfl | exact hC.p 29 rfl | exact hC.p 9 rfl | exact hC.p 12 rfl | exact hC.p 13 rfl | rfl) ?_
      refine VW.alen (pc' := 8) d_Trial_changeRows_7 rfl (by first | exact hC.k 13 rfl | exact hC.k 14 rfl | exact hC.k 15 rfl | exact hC.k 16 rfl | exact hC.k 17 rfl | exact hC.k 18 rfl | exact hC.k 19 rfl | exact hC.k 20 rfl | exact hC.k 2 rfl | exact hC.k 3 rfl | exact hC.k 6 rfl | exact hC.k 7 rfl) (by simp) (by omega) ?_
      refine VW.icmp_ge (tgt := 46) (pc' := 11) d_Trial_changeRows_8 rfl rfl (fun c8 => ?_) (fun c8 => ?_)
      case refine_1 => exact absurd c8 (by omega)
      refine VW.aload_n (pc' := 12) d_Trial_changeRows_11 rfl rfl ?_
      refine VW.iload_n (pc' := 13) d_Trial_changeRows_12 rfl rfl ?_
      refine VW.iconst (pc' := 14) d_Trial_changeRows_13 rfl (by decide) ?_
      refine VW.cV (ci := 9) (T := T9) (N := 8) (pc' := 17) d_Trial_changeRows_14 rfl mv_Trial_refersToGone lk_Trial_162 rfl (by first | exact hC.k 13 rfl | exact hC.k 14 rfl | exact hC.k 15 rfl | exact hC.k 16 rfl | exact hC.k 17 rfl | exact hC.k 18 rfl | exact hC.k 19 rfl | exact hC.k 20 rfl | exact hC.k 2 rfl | exact hC.k 3 rfl | exact hC.k 6 rfl | exact hC.k 7 rfl) rfl rfl rfl (Nat.le_refl _) (Nat.le_refl _) (sp_Trial_refersToGone hC cc r2) rfl rfl ?_
      refine VW.if_eq (tgt := 40) (pc' := 20) d_Trial_changeRows_17 rfl rfl (fun c17 => ?_) (fun c17 => ?_)
      · try have e17 := bIe c17
        refine VW.iinc (pc' := 43) d_Trial_changeRows_40 rfl rfl rfl (by omega) ?_
        refine VW.goto (pc' := 2) d_Trial_changeRows_43 rfl ?_
        refine VW.pick [0, 1] ?_
        first | exact yes (bIn c17) | exact no (bIe c17)
      · try have e17 := bIn c17
        refine VW.aload_n (pc' := 21) d_Trial_changeRows_20 rfl rfl ?_
        refine VW.gP (ci := 9) (T := T9) (N := 8) (k := 1) (k' := 1) (pc' := 24) d_Trial_changeRows_21 rfl lk_Trial_12 in9 rfl rfl rfl rfl (by first | exact hC.k 13 rfl | exact hC.k 14 rfl | exact hC.k 15 rfl | exact hC.k 16 rfl | exact hC.k 17 rfl | exact hC.k 18 rfl | exact hC.k 19 rfl | exact hC.k 20 rfl | exact hC.k 2 rfl | exact hC.k 3 rfl | exact hC.k 6 rfl | exact hC.k 7 rfl) (by first | exact hC.p 22 rfl | exact hC.p 23 rfl | exact hC.p 24 rfl | exact hC.p 25 rfl | exact hC.p 26 rfl | exact hC.p 27 rfl | exact hC.p 28 rfl | exact hC.p 29 rfl | exact hC.p 9 rfl | exact hC.p 12 rfl | exact hC.p 13 rfl | rfl) ?_
        refine VW.gP (ci := 6) (T := T6) (N := 1) (k := 0) (k' := 0) (pc' := 27) d_Trial_changeRows_24 rfl lk_Trial_117 in6 rfl rfl rfl rfl (by first | exact hC.k 13 rfl | exact hC.k 14 rfl | exact hC.k 15 rfl | exact hC.k 16 rfl | exact hC.k 17 rfl | exact hC.k 18 rfl | exact hC.k 19 rfl | exact hC.k 20 rfl | exact hC.k 2 rfl | exact hC.k 3 rfl | exact hC.k 6 rfl | exact hC.k 7 rfl) (by first | exact hC.p 22 rfl | exact hC.p 23 rfl | exact hC.p 24 rfl | exact hC.p 25 rfl | exact hC.p 26 rfl | exact hC.p 27 rfl | exact hC.p 28 rfl | exact hC.p 29 rfl | exact hC.p 9 rfl | exact hC.p 12 rfl | exact hC.p 13 rfl | rfl) ?_
        refine VW.iload_n (pc' := 28) d_Trial_changeRows_27 rfl rfl ?_
        refine VW.ldc (pc' := 30) (z := -2147483648) d_Trial_changeRows_28 rfl lk_Trial_75 (by decide) (by decide) ?_
        refine VW.iast (pc' := 31) d_Trial_changeRows_30 rfl (by first | exact hC.k 13 rfl | exact hC.k 14 rfl | exact hC.k 15 rfl | exact hC.k 16 rfl | exact hC.k 17 rfl | exact hC.k 18 rfl | exact hC.k 19 rfl | exact hC.k 20 rfl | exact hC.k 2 rfl | exact hC.k 3 rfl | exact hC.k 6 rfl | exact hC.k 7 rfl) (by omega) (by omega) ?_
        refine VW.aload_n (pc' := 32) d_Trial_changeRows_31 rfl rfl ?_
        refine VW.gP (ci := 9) (T := T9) (N := 8) (k := 3) (k' := 3) (pc' := 35) d_Trial_changeRows_32 rfl lk_Trial_22 in9 rfl rfl rfl rfl (by first | exact hC.k 13 rfl | exact hC.k 14 rfl | exact hC.k 15 rfl | exact hC.k 16 rfl | exact hC.k 17 rfl | exact hC.k 18 rfl | exact hC.k 19 rfl | exact hC.k 20 rfl | exact hC.k 2 rfl | exact hC.k 3 rfl | exact hC.k 6 rfl | exact hC.k 7 rfl) (by first | exact hC.p 22 rfl | exact hC.p 23 rfl | exact hC.p 24 rfl | exact hC.p 25 rfl | exact hC.p 26 rfl | exact hC.p 27 rfl | exact hC.p 28 rfl | exact hC.p 29 rfl | exact hC.p 9 rfl | exact hC.p 12 rfl | exact hC.p 13 rfl | rfl) ?_
        refine VW.iload_n (pc' := 36) d_Trial_changeRows_35 rfl rfl ?_
        refine VW.iconst (pc' := 37) d_Trial_changeRows_36 rfl (by decide) ?_
        refine VW.idiv (pc' := 38) d_Trial_changeRows_37 rfl (by omega) (by omega) ?_
        rw [e1]
        refine VW.iconst (pc' := 39) d_Trial_changeRows_38 rfl (by decide) ?_
        refine VW.zast (pc' := 40) d_Trial_changeRows_39 rfl (by first | exact hC.k 13 rfl | exact hC.k 14 rfl | exact hC.k 15 rfl | exact hC.k 16 rfl | exact hC.k 17 rfl | exact hC.k 18 rfl | exact hC.k 19 rfl | exact hC.k 20 rfl | exact hC.k 2 rfl | exact hC.k 3 rfl | exact hC.k 6 rfl | exact hC.k 7 rfl) (by omega) (by omega) (by omega) ?_
        refine VW.iinc (pc' := 43) d_Trial_changeRows_40 rfl rfl rfl (by omega) ?_
        refine VW.goto (pc' := 2) d_Trial_changeRows_43 rfl ?_
        refine VW.pick [0, 1] ?_
        first | exact yes (bIn c17) | exact no (bIe c17)
  have l9 := first 192 0 I (by omega) (Int.le_refl _) (ChX.rf.iff (fun z z0 _ => ⟨False.elim, fun u => by have := u.1; omega⟩) (fun p _ _ => ⟨False.elim, fun ⟨j, a, b, _⟩ => by omega⟩))
  clear first second
  refine VW.iconst (pc' := 1) d_Trial_changeRows_0 rfl (by decide) ?_
  refine VW.istore_n (pc' := 2) d_Trial_changeRows_1 rfl rfl ?_
  refine VW.pick [0, 1] ?_
  exact l9
end
