section
variable {K : KT} {P : PT} {J I : IT}
/-- who waits for whom leads to i, within k steps -/
def ewR (I : IT) (n : Nat) (i : Int) : Nat → Int → Prop
  | 0, _ => False
  | k + 1, b => (0 ≤ b ∧ b < n) ∧ (b = i ∨ ewR I n i k (I (tX b.toNat) 6))
theorem sp_Engine_endsWaitingFor {n lq : Nat} {lv mv : Nat → Nat} (hC : ClW K P) (hL : EnL K P I n lq lv mv) {b i : Int} : Sp m_Engine_endsWaitingFor false (rmv 3 101) (ex K P J I (.inl (some (vI (bI (ewR I n i 60 b)))))) K P J I [vR (some 1064), vI b, vI i] := by
  refine Sp.ofV (by decide) (Or.inr rfl) rfl ?_
  have hz := hL.sz
  have hcp := hL.cp
  have h60 := hL.2.1
  have loop : ∀ (w : Nat) (s c : Int), s + w = 60 → 0 ≤ s → (ewR I n i 60 b ↔ ewR I n i w c) → VW m_Engine_endsWaitingFor false (rmv 3 101) (ex K P J I (.inl (some (vI (bI (ewR I n i 60 b)))))) K P J I 0 0 5 [(0, vR (some 1064)), (1, vI b), (2, vI i), (3, vI c), (4, vI s)] [] := by
    intro w
    induction w with
    | zero =>
      intro s c hs h0 he
      have fin : bI (ewR I n i 60 b) = 0 := bI0 (fun h => he.mp h)
      refine VW.iload (pc' := 7) d_Engine_endsWaitingFor_5 rfl rfl ?_
      refine VW.bipush (pc' := 9) d_Engine_endsWaitingFor_7 rfl (by decide) ?_
      refine VW.icmp_ge (tgt := 48) (pc' := 12) d_Engine_endsWaitingFor_9 rfl rfl (fun c9 => ?_) (fun c9 => ?_)
      case refine_2 => exact absurd c9 (by omega)
      refine VW.iconst (pc' := 49) d_Engine_endsWaitingFor_48 rfl (by decide) ?_
      exact VW.iret d_Engine_endsWaitingFor_49 rfl rfl (Nat.zero_le _) (Nat.zero_le _) (ex_v fin)
    | succ w ih =>
      intro s c hs h0 he
      have no : ¬ (0 ≤ c ∧ c < n) → bI (ewR I n i 60 b) = 0 := fun h => bI0 (fun z => h (he.mp z).1)
      have yes : (0 ≤ c ∧ c < n) → c = i → bI (ewR I n i 60 b) = 1 := fun h1 h2 => bI1 (he.mpr ⟨h1, Or.inl h2⟩)
      by_cases hc : 0 ≤ c ∧ c < n
      · obtain ⟨q, rfl⟩ : ∃ q : Nat, c = q := ⟨c.toNat, by omega⟩
        have hj' : q < n := by omega
        have hel := hL.el hj'
        have hT := (hL.tx hj').1
        have bc : bI (0 ≤ (q : Int) ∧ (q : Int) < n) = 1 := bI1 hc
        have n9 := fun (h : ¬ (q : Int) = i) => ih (s + 1) (I (tX q) 6) (by omega) (by omega) (he.trans ⟨fun z => z.2.resolve_left h, fun z => ⟨hc, Or.inr z⟩⟩)
        clear ih
        refine VW.iload (pc' := 7) d_Engine_endsWaitingFor_5 rfl rfl ?_
        refine VW.bipush (pc' := 9) d_Engine_endsWaitingFor_7 rfl (by decide) ?_
        refine VW.icmp_ge (tgt := 48) (pc' := 12) d_Engine_endsWaitingFor_9 rfl rfl (fun c9 => ?_) (fun c9 => ?_)
        case refine_1 => exact absurd c9 (by omega)
        refine VW.aload_n (pc' := 13) d_Engine_endsWaitingFor_12 rfl rfl ?_
        refine VW.iload_n (pc' := 14) d_Engine_endsWaitingFor_13 rfl rfl ?_
        refine VW.cV (ci := 0) (T := T0) (N := 8) (pc' := 17) d_Engine_endsWaitingFor_14 rfl mv_Engine_hasTransaction lk_Engine_144 rfl (by first | exact hC.k 9 rfl | exact hC.k 10 rfl | exact hC.k 11 rfl | exact hC.k 12 rfl | exact hC.k 53 rfl | exact hT.1) rfl rfl rfl (Nat.le_refl _) (Nat.le_refl _) (sp_Engine_hasTransaction hC hL) rfl rfl ?_
        refine VW.if_eq (tgt := 48) (pc' := 20) d_Engine_endsWaitingFor_17 rfl rfl (fun c17 => ?_) (fun c17 => ?_)
        case refine_1 => exact absurd c17 (by omega)
        refine VW.iload_n (pc' := 21) d_Engine_endsWaitingFor_20 rfl rfl ?_
        refine VW.iload_n (pc' := 22) d_Engine_endsWaitingFor_21 rfl rfl ?_
        refine VW.icmp_ne (tgt := 27) (pc' := 25) d_Engine_endsWaitingFor_22 rfl rfl (fun c22 => ?_) (fun c22 => ?_)
        · refine VW.aload_n (pc' := 28) d_Engine_endsWaitingFor_27 rfl rfl ?_
          refine VW.gP (ci := 0) (T := T0) (N := 8) (k := 2) (k' := 2) (pc' := 31) d_Engine_endsWaitingFor_28 rfl lk_Engine_21 in0 rfl rfl rfl rfl (by first | exact hC.k 9 rfl | exact hC.k 10 rfl | exact hC.k 11 rfl | exact hC.k 12 rfl | exact hC.k 53 rfl | exact hT.1) (by first | exact hC.p 15 rfl | exact hC.p 17 rfl | exact hC.p 19 rfl | exact hC.p 20 rfl | exact hC.p 21 rfl | rfl) ?_
          refine VW.iload_n (pc' := 32) d_Engine_endsWaitingFor_31 rfl rfl ?_
          refine VW.cV (ci := 12) (T := T12) (N := 3) (pc' := 35) d_Engine_endsWaitingFor_32 rfl mv_java_util_ArrayList_get lk_Engine_61 rfl (by first | exact hC.k 9 rfl | exact hC.k 10 rfl | exact hC.k 11 rfl | exact hC.k 12 rfl | exact hC.k 53 rfl | exact hT.1) rfl rfl rfl (Nat.le_refl _) (Nat.le_refl _) (sp_java_util_ArrayList_get (i := (q : Int)) hL.al (by rw [hz]; omega) (by rw [hz]; omega)) rfl rfl ?_
          rw [hel]
          refine VW.cast (ci := 8) (T := T8) (NN := 19) (pc' := 38) d_Engine_endsWaitingFor_35 rfl lk_Engine_65 rfl (by first | exact hC.k 9 rfl | exact hC.k 10 rfl | exact hC.k 11 rfl | exact hC.k 12 rfl | exact hC.k 53 rfl | exact hT.1) ?_
          refine VW.gI (ci := 8) (T := T8) (N := 19) (k := 6) (k' := 6) (pc' := 41) d_Engine_endsWaitingFor_38 rfl lk_Engine_121 in8 rfl rfl rfl rfl (by first | exact hC.k 9 rfl | exact hC.k 10 rfl | exact hC.k 11 rfl | exact hC.k 12 rfl | exact hC.k 53 rfl | exact hT.1) (by first | exact hC.p 15 rfl | exact hC.p 17 rfl | exact hC.p 19 rfl | exact hC.p 20 rfl | exact hC.p 21 rfl | rfl) ?_
          refine VW.istore_n (pc' := 42) d_Engine_endsWaitingFor_41 rfl rfl ?_
          refine VW.iinc (pc' := 45) d_Engine_endsWaitingFor_42 rfl rfl rfl (by omega) ?_
          refine VW.goto (pc' := 5) d_Engine_endsWaitingFor_45 rfl ?_
          refine VW.pick [0, 1, 2, 3, 4] ?_
          exact n9 c22
        · refine VW.iconst (pc' := 26) d_Engine_endsWaitingFor_25 rfl (by decide) ?_
          exact VW.iret d_Engine_endsWaitingFor_26 rfl rfl (Nat.zero_le _) (Nat.zero_le _) (ex_v (yes hc c22))
      · have bc : bI (0 ≤ c ∧ c < n) = 0 := bI0 hc
        clear ih
        refine VW.iload (pc' := 7) d_Engine_endsWaitingFor_5 rfl rfl ?_
        refine VW.bipush (pc' := 9) d_Engine_endsWaitingFor_7 rfl (by decide) ?_
        refine VW.icmp_ge (tgt := 48) (pc' := 12) d_Engine_endsWaitingFor_9 rfl rfl (fun c9 => ?_) (fun c9 => ?_)
        case refine_1 => exact absurd c9 (by omega)
        refine VW.aload_n (pc' := 13) d_Engine_endsWaitingFor_12 rfl rfl ?_
        refine VW.iload_n (pc' := 14) d_Engine_endsWaitingFor_13 rfl rfl ?_
        refine VW.cV (ci := 0) (T := T0) (N := 8) (pc' := 17) d_Engine_endsWaitingFor_14 rfl mv_Engine_hasTransaction lk_Engine_144 rfl (by first | exact hC.k 9 rfl | exact hC.k 10 rfl | exact hC.k 11 rfl | exact hC.k 12 rfl | exact hC.k 53 rfl) rfl rfl rfl (Nat.le_refl _) (Nat.le_refl _) (sp_Engine_hasTransaction hC hL) rfl rfl ?_
        refine VW.if_eq (tgt := 48) (pc' := 20) d_Engine_endsWaitingFor_17 rfl rfl (fun c17 => ?_) (fun c17 => ?_)
        case refine_2 => exact absurd c17 (by omega)
        refine VW.iconst (pc' := 49) d_Engine_endsWaitingFor_48 rfl (by decide) ?_
        exact VW.iret d_Engine_endsWaitingFor_49 rfl rfl (Nat.zero_le _) (Nat.zero_le _) (ex_v (no hc))
  have l9 := loop 60 0 b (by omega) (Int.le_refl _) Iff.rfl
  clear loop
  refine VW.iload_n (pc' := 1) d_Engine_endsWaitingFor_0 rfl rfl ?_
  refine VW.istore_n (pc' := 2) d_Engine_endsWaitingFor_1 rfl rfl ?_
  refine VW.iconst (pc' := 3) d_Engine_endsWaitingFor_2 rfl (by decide) ?_
  refine VW.istore (pc' := 5) d_Engine_endsWaitingFor_3 rfl rfl ?_
  refine VW.pick [0, 1, 2, 3, 4] ?_
  exact l9
/-- one that waits for one that has ended -/
def lfG (I : IT) (n : Nat) (j : Int) : Prop := I (tX j.toNat) 4 = 1 ∧ (0 ≤ I (tX j.toNat) 6 ∧ I (tX j.toNat) 6 < n) ∧ ¬ (I (tX (I (tX j.toNat) 6).toNat) 4 = 0 ∨ I (tX (I (tX j.toNat) 6).toNat) 4 = 1)
noncomputable def lfF (I : IT) (n : Nat) : Int := fs (lfG I n) 0 n
noncomputable def lfO (I : IT) (n : Nat) : Option Nat := if lfF I n = -1 then none else some (tX (lfF I n).toNat)
theorem sp_Engine_lowestFreed {n lq : Nat} {lv mv : Nat → Nat} (hC : ClW K P) (hL : EnL K P I n lq lv mv) : Sp m_Engine_lowestFreed false (rmv 3 101) (ex K P J I (.inl (some (vR (lfO I n))))) K P J I [vR (some 1064)] := by
  refine Sp.ofV (by decide) (Or.inr rfl) rfl ?_
  have hz := hL.sz
  have hcp := hL.cp
  have h60 := hL.2.1
  have loop : ∀ (w j : Nat), j + w = n → lfF I n = fs (lfG I n) (j : Int) w → VW m_Engine_lowestFreed false (rmv 3 101) (ex K P J I (.inl (some (vR (lfO I n))))) K P J I 0 0 2 [(0, vR (some 1064)), (1, vI (j : Int))] [] := by
    intro w
    induction w with
    | zero =>
      intro j hj hf
      have fin : lfO I n = none := if_pos hf
      refine VW.iload_n (pc' := 3) d_Engine_lowestFreed_2 rfl rfl ?_
      refine VW.aload_n (pc' := 4) d_Engine_lowestFreed_3 rfl rfl ?_
      refine VW.gP (ci := 0) (T := T0) (N := 8) (k := 2) (k' := 2) (pc' := 7) d_Engine_lowestFreed_4 rfl lk_Engine_21 in0 rfl rfl rfl rfl (by first | exact hC.k 9 rfl | exact hC.k 10 rfl | exact hC.k 11 rfl | exact hC.k 12 rfl | exact hC.k 53 rfl) (by first | exact hC.p 15 rfl | exact hC.p 17 rfl | exact hC.p 19 rfl | exact hC.p 20 rfl | exact hC.p 21 rfl | rfl) ?_
      refine VW.cV (ci := 12) (T := T12) (N := 3) (pc' := 10) d_Engine_lowestFreed_7 rfl mv_java_util_ArrayList_size lk_Engine_57 rfl (by first | exact hC.k 9 rfl | exact hC.k 10 rfl | exact hC.k 11 rfl | exact hC.k 12 rfl | exact hC.k 53 rfl) rfl rfl rfl (Nat.le_refl _) (Nat.le_refl _) (sp_java_util_ArrayList_size (hC.k 53 rfl)) rfl rfl ?_
      rw [hz]
      refine VW.icmp_ge (tgt := 72) (pc' := 13) d_Engine_lowestFreed_10 rfl rfl (fun c10 => ?_) (fun c10 => ?_)
      case refine_2 => exact absurd c10 (by omega)
      refine VW.null (pc' := 73) d_Engine_lowestFreed_72 rfl ?_
      exact VW.aret d_Engine_lowestFreed_73 rfl (by first | exact Or.inl ⟨_, rfl⟩ | exact Or.inr ⟨_, rfl⟩) (Nat.zero_le _) (Nat.zero_le _) (by rw [fin]; exact ex_rf)
    | succ w ih =>
      intro j hj hf
      have hj' : j < n := by omega
      have hel := hL.el hj'
      have hT := (hL.tx hj').1
      have jt : ((j : Int)).toNat = j := Int.toNat_natCast j
      have nx := fun (h : ¬ lfG I n (j : Int)) => ih (j + 1) (by omega) (by rw [show ((j + 1 : Nat) : Int) = (j : Int) + 1 by omega]; exact hf.trans (fs_no h))
      have yes : lfG I n (j : Int) → lfO I n = some (tX j) := fun h => by
        have e : lfF I n = j := hf.trans (fs_yes h)
        unfold lfO
        rw [e, if_neg (by omega), jt]
      rw [show ((j + 1 : Nat) : Int) = (j : Int) + 1 by omega] at nx
      unfold lfG at nx yes
      rw [jt] at nx yes
      clear ih
      by_cases h1 : I (tX j) 4 = 1
      · by_cases hc : 0 ≤ I (tX j) 6 ∧ I (tX j) 6 < n
        · obtain ⟨q, hq⟩ : ∃ q : Nat, I (tX j) 6 = q := ⟨(I (tX j) 6).toNat, by omega⟩
          rw [hq] at nx yes hc
          have hq' : q < n := by omega
          have heq := hL.el hq'
          have hTq := (hL.tx hq').1
          have qt : ((q : Int)).toNat = q := Int.toNat_natCast q
          rw [qt] at nx yes
          have bc : bI (0 ≤ (q : Int) ∧ (q : Int) < n) = 1 := bI1 hc
          refine VW.iload_n (pc' := 3) d_Engine_lowestFreed_2 rfl rfl ?_
          refine VW.aload_n (pc' := 4) d_Engine_lowestFreed_3 rfl rfl ?_
          refine VW.gP (ci := 0) (T := T0) (N := 8) (k := 2) (k' := 2) (pc' := 7) d_Engine_lowestFreed_4 rfl lk_Engine_21 in0 rfl rfl rfl rfl (by first | exact hC.k 9 rfl | exact hC.k 10 rfl | exact hC.k 11 rfl | exact hC.k 12 rfl | exact hC.k 53 rfl | exact hT.1 | exact hTq.1) (by first | exact hC.p 15 rfl | exact hC.p 17 rfl | exact hC.p 19 rfl | exact hC.p 20 rfl | exact hC.p 21 rfl | exact hq | rfl) ?_
          refine VW.cV (ci := 12) (T := T12) (N := 3) (pc' := 10) d_Engine_lowestFreed_7 rfl mv_java_util_ArrayList_size lk_Engine_57 rfl (by first | exact hC.k 9 rfl | exact hC.k 10 rfl | exact hC.k 11 rfl | exact hC.k 12 rfl | exact hC.k 53 rfl | exact hT.1 | exact hTq.1) rfl rfl rfl (Nat.le_refl _) (Nat.le_refl _) (sp_java_util_ArrayList_size (hC.k 53 rfl)) rfl rfl ?_
          rw [hz]
          refine VW.icmp_ge (tgt := 72) (pc' := 13) d_Engine_lowestFreed_10 rfl rfl (fun c10 => ?_) (fun c10 => ?_)
          case refine_1 => exact absurd c10 (by omega)
          refine VW.aload_n (pc' := 14) d_Engine_lowestFreed_13 rfl rfl ?_
          refine VW.gP (ci := 0) (T := T0) (N := 8) (k := 2) (k' := 2) (pc' := 17) d_Engine_lowestFreed_14 rfl lk_Engine_21 in0 rfl rfl rfl rfl (by first | exact hC.k 9 rfl | exact hC.k 10 rfl | exact hC.k 11 rfl | exact hC.k 12 rfl | exact hC.k 53 rfl | exact hT.1 | exact hTq.1) (by first | exact hC.p 15 rfl | exact hC.p 17 rfl | exact hC.p 19 rfl | exact hC.p 20 rfl | exact hC.p 21 rfl | exact hq | rfl) ?_
          refine VW.iload_n (pc' := 18) d_Engine_lowestFreed_17 rfl rfl ?_
          refine VW.cV (ci := 12) (T := T12) (N := 3) (pc' := 21) d_Engine_lowestFreed_18 rfl mv_java_util_ArrayList_get lk_Engine_61 rfl (by first | exact hC.k 9 rfl | exact hC.k 10 rfl | exact hC.k 11 rfl | exact hC.k 12 rfl | exact hC.k 53 rfl | exact hT.1 | exact hTq.1) rfl rfl rfl (Nat.le_refl _) (Nat.le_refl _) (sp_java_util_ArrayList_get (i := (j : Int)) hL.al (by rw [hz]; omega) (by rw [hz]; omega)) rfl rfl ?_
          rw [hel]
          refine VW.cast (ci := 8) (T := T8) (NN := 19) (pc' := 24) d_Engine_lowestFreed_21 rfl lk_Engine_65 rfl (by first | exact hC.k 9 rfl | exact hC.k 10 rfl | exact hC.k 11 rfl | exact hC.k 12 rfl | exact hC.k 53 rfl | exact hT.1 | exact hTq.1) ?_
          refine VW.astore_n (pc' := 25) d_Engine_lowestFreed_24 rfl rfl ?_
          refine VW.aload_n (pc' := 26) d_Engine_lowestFreed_25 rfl rfl ?_
          refine VW.gI (ci := 8) (T := T8) (N := 19) (k := 4) (k' := 4) (pc' := 29) d_Engine_lowestFreed_26 rfl lk_Engine_118 in8 rfl rfl rfl rfl (by first | exact hC.k 9 rfl | exact hC.k 10 rfl | exact hC.k 11 rfl | exact hC.k 12 rfl | exact hC.k 53 rfl | exact hT.1 | exact hTq.1) (by first | exact hC.p 15 rfl | exact hC.p 17 rfl | exact hC.p 19 rfl | exact hC.p 20 rfl | exact hC.p 21 rfl | exact hq | rfl) ?_
          refine VW.iconst (pc' := 30) d_Engine_lowestFreed_29 rfl (by decide) ?_
          refine VW.icmp_ne (tgt := 66) (pc' := 33) d_Engine_lowestFreed_30 rfl rfl (fun c30 => ?_) (fun c30 => ?_)
          case refine_1 => exact absurd c30 (by omega)
          refine VW.aload_n (pc' := 34) d_Engine_lowestFreed_33 rfl rfl ?_
          refine VW.aload_n (pc' := 35) d_Engine_lowestFreed_34 rfl rfl ?_
          refine VW.gI (ci := 8) (T := T8) (N := 19) (k := 6) (k' := 6) (pc' := 38) d_Engine_lowestFreed_35 rfl lk_Engine_121 in8 rfl rfl rfl rfl (by first | exact hC.k 9 rfl | exact hC.k 10 rfl | exact hC.k 11 rfl | exact hC.k 12 rfl | exact hC.k 53 rfl | exact hT.1 | exact hTq.1) (by first | exact hC.p 15 rfl | exact hC.p 17 rfl | exact hC.p 19 rfl | exact hC.p 20 rfl | exact hC.p 21 rfl | exact hq | rfl) ?_
          refine VW.cV (ci := 0) (T := T0) (N := 8) (pc' := 41) d_Engine_lowestFreed_38 rfl mv_Engine_hasTransaction lk_Engine_144 rfl (by first | exact hC.k 9 rfl | exact hC.k 10 rfl | exact hC.k 11 rfl | exact hC.k 12 rfl | exact hC.k 53 rfl | exact hT.1 | exact hTq.1) rfl rfl rfl (Nat.le_refl _) (Nat.le_refl _) (sp_Engine_hasTransaction hC hL) rfl rfl ?_
          refine VW.if_eq (tgt := 66) (pc' := 44) d_Engine_lowestFreed_41 rfl rfl (fun c41 => ?_) (fun c41 => ?_)
          case refine_1 => exact absurd c41 (by omega)
          refine VW.aload_n (pc' := 45) d_Engine_lowestFreed_44 rfl rfl ?_
          refine VW.gP (ci := 0) (T := T0) (N := 8) (k := 2) (k' := 2) (pc' := 48) d_Engine_lowestFreed_45 rfl lk_Engine_21 in0 rfl rfl rfl rfl (by first | exact hC.k 9 rfl | exact hC.k 10 rfl | exact hC.k 11 rfl | exact hC.k 12 rfl | exact hC.k 53 rfl | exact hT.1 | exact hTq.1) (by first | exact hC.p 15 rfl | exact hC.p 17 rfl | exact hC.p 19 rfl | exact hC.p 20 rfl | exact hC.p 21 rfl | exact hq | rfl) ?_
          refine VW.aload_n (pc' := 49) d_Engine_lowestFreed_48 rfl rfl ?_
          refine VW.gI (ci := 8) (T := T8) (N := 19) (k := 6) (k' := 6) (pc' := 52) d_Engine_lowestFreed_49 rfl lk_Engine_121 in8 rfl rfl rfl rfl (by first | exact hC.k 9 rfl | exact hC.k 10 rfl | exact hC.k 11 rfl | exact hC.k 12 rfl | exact hC.k 53 rfl | exact hT.1 | exact hTq.1) (by first | exact hC.p 15 rfl | exact hC.p 17 rfl | exact hC.p 19 rfl | exact hC.p 20 rfl | exact hC.p 21 rfl | exact hq | rfl) ?_
          refine VW.cV (ci := 12) (T := T12) (N := 3) (pc' := 55) d_Engine_lowestFreed_52 rfl mv_java_util_ArrayList_get lk_Engine_61 rfl (by first | exact hC.k 9 rfl | exact hC.k 10 rfl | exact hC.k 11 rfl | exact hC.k 12 rfl | exact hC.k 53 rfl | exact hT.1 | exact hTq.1) rfl rfl rfl (Nat.le_refl _) (Nat.le_refl _) (sp_java_util_ArrayList_get (i := (q : Int)) hL.al (by rw [hz]; omega) (by rw [hz]; omega)) rfl rfl ?_
          rw [heq]
          refine VW.cast (ci := 8) (T := T8) (NN := 19) (pc' := 58) d_Engine_lowestFreed_55 rfl lk_Engine_65 rfl (by first | exact hC.k 9 rfl | exact hC.k 10 rfl | exact hC.k 11 rfl | exact hC.k 12 rfl | exact hC.k 53 rfl | exact hT.1 | exact hTq.1) ?_
          refine VW.cV (ci := 8) (T := T8) (N := 19) (pc' := 61) d_Engine_lowestFreed_58 rfl mv_Transaction_isOpen lk_Engine_67 rfl (by first | exact hC.k 9 rfl | exact hC.k 10 rfl | exact hC.k 11 rfl | exact hC.k 12 rfl | exact hC.k 53 rfl | exact hT.1 | exact hTq.1) rfl rfl rfl (Nat.le_refl _) (Nat.le_refl _) (sp_Transaction_isOpen hTq) rfl rfl ?_
          refine VW.if_ne (tgt := 66) (pc' := 64) d_Engine_lowestFreed_61 rfl rfl (fun c61 => ?_) (fun c61 => ?_)
          · try have e61 := bIn c61
            refine VW.iinc (pc' := 69) d_Engine_lowestFreed_66 rfl rfl rfl (by omega) ?_
            refine VW.goto (pc' := 2) d_Engine_lowestFreed_69 rfl ?_
            refine VW.pick [0, 1] ?_
            exact nx (fun h => h.2.2 (bIn c61))
          · try have e61 := bIe c61
            refine VW.aload_n (pc' := 65) d_Engine_lowestFreed_64 rfl rfl ?_
            exact VW.aret d_Engine_lowestFreed_65 rfl (by first | exact Or.inl ⟨_, rfl⟩ | exact Or.inr ⟨_, rfl⟩) (Nat.zero_le _) (Nat.zero_le _) (by rw [yes ⟨h1, hc, bIe c61⟩]; exact ex_rf)
        · have bc : bI (0 ≤ I (tX j) 6 ∧ I (tX j) 6 < n) = 0 := bI0 hc
          have n9 := nx (fun h => hc h.2.1)
          refine VW.iload_n (pc' := 3) d_Engine_lowestFreed_2 rfl rfl ?_
          refine VW.aload_n (pc' := 4) d_Engine_lowestFreed_3 rfl rfl ?_
          refine VW.gP (ci := 0) (T := T0) (N := 8) (k := 2) (k' := 2) (pc' := 7) d_Engine_lowestFreed_4 rfl lk_Engine_21 in0 rfl rfl rfl rfl (by first | exact hC.k 9 rfl | exact hC.k 10 rfl | exact hC.k 11 rfl | exact hC.k 12 rfl | exact hC.k 53 rfl | exact hT.1) (by first | exact hC.p 15 rfl | exact hC.p 17 rfl | exact hC.p 19 rfl | exact hC.p 20 rfl | exact hC.p 21 rfl | rfl) ?_
          refine VW.cV (ci := 12) (T := T12) (N := 3) (pc' := 10) d_Engine_lowestFreed_7 rfl mv_java_util_ArrayList_size lk_Engine_57 rfl (by first | exact hC.k 9 rfl | exact hC.k 10 rfl | exact hC.k 11 rfl | exact hC.k 12 rfl | exact hC.k 53 rfl | exact hT.1) rfl rfl rfl (Nat.le_refl _) (Nat.le_refl _) (sp_java_util_ArrayList_size (hC.k 53 rfl)) rfl rfl ?_
          rw [hz]
          refine VW.icmp_ge (tgt := 72) (pc' := 13) d_Engine_lowestFreed_10 rfl rfl (fun c10 => ?_) (fun c10 => ?_)
          case refine_1 => exact absurd c10 (by omega)
          refine VW.aload_n (pc' := 14) d_Engine_lowestFreed_13 rfl rfl ?_
          refine VW.gP (ci := 0) (T := T0) (N := 8) (k := 2) (k' := 2) (pc' := 17) d_Engine_lowestFreed_14 rfl lk_Engine_21 in0 rfl rfl rfl rfl (by first | exact hC.k 9 rfl | exact hC.k 10 rfl | exact hC.k 11 rfl | exact hC.k 12 rfl | exact hC.k 53 rfl | exact hT.1) (by first | exact hC.p 15 rfl | exact hC.p 17 rfl | exact hC.p 19 rfl | exact hC.p 20 rfl | exact hC.p 21 rfl | rfl) ?_
          refine VW.iload_n (pc' := 18) d_Engine_lowestFreed_17 rfl rfl ?_
          refine VW.cV (ci := 12) (T := T12) (N := 3) (pc' := 21) d_Engine_lowestFreed_18 rfl mv_java_util_ArrayList_get lk_Engine_61 rfl (by first | exact hC.k 9 rfl | exact hC.k 10 rfl | exact hC.k 11 rfl | exact hC.k 12 rfl | exact hC.k 53 rfl | exact hT.1) rfl rfl rfl (Nat.le_refl _) (Nat.le_refl _) (sp_java_util_ArrayList_get (i := (j : Int)) hL.al (by rw [hz]; omega) (by rw [hz]; omega)) rfl rfl ?_
          rw [hel]
          refine VW.cast (ci := 8) (T := T8) (NN := 19) (pc' := 24) d_Engine_lowestFreed_21 rfl lk_Engine_65 rfl (by first | exact hC.k 9 rfl | exact hC.k 10 rfl | exact hC.k 11 rfl | exact hC.k 12 rfl | exact hC.k 53 rfl | exact hT.1) ?_
          refine VW.astore_n (pc' := 25) d_Engine_lowestFreed_24 rfl rfl ?_
          refine VW.aload_n (pc' := 26) d_Engine_lowestFreed_25 rfl rfl ?_
          refine VW.gI (ci := 8) (T := T8) (N := 19) (k := 4) (k' := 4) (pc' := 29) d_Engine_lowestFreed_26 rfl lk_Engine_118 in8 rfl rfl rfl rfl (by first | exact hC.k 9 rfl | exact hC.k 10 rfl | exact hC.k 11 rfl | exact hC.k 12 rfl | exact hC.k 53 rfl | exact hT.1) (by first | exact hC.p 15 rfl | exact hC.p 17 rfl | exact hC.p 19 rfl | exact hC.p 20 rfl | exact hC.p 21 rfl | rfl) ?_
          refine VW.iconst (pc' := 30) d_Engine_lowestFreed_29 rfl (by decide) ?_
          refine VW.icmp_ne (tgt := 66) (pc' := 33) d_Engine_lowestFreed_30 rfl rfl (fun c30 => ?_) (fun c30 => ?_)
          case refine_1 => exact absurd c30 (by omega)
          refine VW.aload_n (pc' := 34) d_Engine_lowestFreed_33 rfl rfl ?_
          refine VW.aload_n (pc' := 35) d_Engine_lowestFreed_34 rfl rfl ?_
          refine VW.gI (ci := 8) (T := T8) (N := 19) (k := 6) (k' := 6) (pc' := 38) d_Engine_lowestFreed_35 rfl lk_Engine_121 in8 rfl rfl rfl rfl (by first | exact hC.k 9 rfl | exact hC.k 10 rfl | exact hC.k 11 rfl | exact hC.k 12 rfl | exact hC.k 53 rfl | exact hT.1) (by first | exact hC.p 15 rfl | exact hC.p 17 rfl | exact hC.p 19 rfl | exact hC.p 20 rfl | exact hC.p 21 rfl | rfl) ?_
          refine VW.cV (ci := 0) (T := T0) (N := 8) (pc' := 41) d_Engine_lowestFreed_38 rfl mv_Engine_hasTransaction lk_Engine_144 rfl (by first | exact hC.k 9 rfl | exact hC.k 10 rfl | exact hC.k 11 rfl | exact hC.k 12 rfl | exact hC.k 53 rfl | exact hT.1) rfl rfl rfl (Nat.le_refl _) (Nat.le_refl _) (sp_Engine_hasTransaction hC hL) rfl rfl ?_
          refine VW.if_eq (tgt := 66) (pc' := 44) d_Engine_lowestFreed_41 rfl rfl (fun c41 => ?_) (fun c41 => ?_)
          case refine_2 => exact absurd c41 (by omega)
          refine VW.iinc (pc' := 69) d_Engine_lowestFreed_66 rfl rfl rfl (by omega) ?_
          refine VW.goto (pc' := 2) d_Engine_lowestFreed_69 rfl ?_
          refine VW.pick [0, 1] ?_
          exact n9
      · have n9 := nx (fun h => h1 h.1)
        refine VW.iload_n (pc' := 3) d_Engine_lowestFreed_2 rfl rfl ?_
        refine VW.aload_n (pc' := 4) d_Engine_lowestFreed_3 rfl rfl ?_
        refine VW.gP (ci := 0) (T := T0) (N := 8) (k := 2) (k' := 2) (pc' := 7) d_Engine_lowestFreed_4 rfl lk_Engine_21 in0 rfl rfl rfl rfl (by first | exact hC.k 9 rfl | exact hC.k 10 rfl | exact hC.k 11 rfl | exact hC.k 12 rfl | exact hC.k 53 rfl | exact hT.1) (by first | exact hC.p 15 rfl | exact hC.p 17 rfl | exact hC.p 19 rfl | exact hC.p 20 rfl | exact hC.p 21 rfl | rfl) ?_
        refine VW.cV (ci := 12) (T := T12) (N := 3) (pc' := 10) d_Engine_lowestFreed_7 rfl mv_java_util_ArrayList_size lk_Engine_57 rfl (by first | exact hC.k 9 rfl | exact hC.k 10 rfl | exact hC.k 11 rfl | exact hC.k 12 rfl | exact hC.k 53 rfl | exact hT.1) rfl rfl rfl (Nat.le_refl _) (Nat.le_refl _) (sp_java_util_ArrayList_size (hC.k 53 rfl)) rfl rfl ?_
        rw [hz]
        refine VW.icmp_ge (tgt := 72) (pc' := 13) d_Engine_lowestFreed_10 rfl rfl (fun c10 => ?_) (fun c10 => ?_)
        case refine_1 => exact absurd c10 (by omega)
        refine VW.aload_n (pc' := 14) d_Engine_lowestFreed_13 rfl rfl ?_
        refine VW.gP (ci := 0) (T := T0) (N := 8) (k := 2) (k' := 2) (pc' := 17) d_Engine_lowestFreed_14 rfl lk_Engine_21 in0 rfl rfl rfl rfl (by first | exact hC.k 9 rfl | exact hC.k 10 rfl | exact hC.k 11 rfl | exact hC.k 12 rfl | exact hC.k 53 rfl | exact hT.1) (by first | exact hC.p 15 rfl | exact hC.p 17 rfl | exact hC.p 19 rfl | exact hC.p 20 rfl | exact hC.p 21 rfl | rfl) ?_
        refine VW.iload_n (pc' := 18) d_Engine_lowestFreed_17 rfl rfl ?_
        refine VW.cV (ci := 12) (T := T12) (N := 3) (pc' := 21) d_Engine_lowestFreed_18 rfl mv_java_util_ArrayList_get lk_Engine_61 rfl (by first | exact hC.k 9 rfl | exact hC.k 10 rfl | exact hC.k 11 rfl | exact hC.k 12 rfl | exact hC.k 53 rfl | exact hT.1) rfl rfl rfl (Nat.le_refl _) (Nat.le_refl _) (sp_java_util_ArrayList_get (i := (j : Int)) hL.al (by rw [hz]; omega) (by rw [hz]; omega)) rfl rfl ?_
        rw [hel]
        refine VW.cast (ci := 8) (T := T8) (NN := 19) (pc' := 24) d_Engine_lowestFreed_21 rfl lk_Engine_65 rfl (by first | exact hC.k 9 rfl | exact hC.k 10 rfl | exact hC.k 11 rfl | exact hC.k 12 rfl | exact hC.k 53 rfl | exact hT.1) ?_
        refine VW.astore_n (pc' := 25) d_Engine_lowestFreed_24 rfl rfl ?_
        refine VW.aload_n (pc' := 26) d_Engine_lowestFreed_25 rfl rfl ?_
        refine VW.gI (ci := 8) (T := T8) (N := 19) (k := 4) (k' := 4) (pc' := 29) d_Engine_lowestFreed_26 rfl lk_Engine_118 in8 rfl rfl rfl rfl (by first | exact hC.k 9 rfl | exact hC.k 10 rfl | exact hC.k 11 rfl | exact hC.k 12 rfl | exact hC.k 53 rfl | exact hT.1) (by first | exact hC.p 15 rfl | exact hC.p 17 rfl | exact hC.p 19 rfl | exact hC.p 20 rfl | exact hC.p 21 rfl | rfl) ?_
        refine VW.iconst (pc' := 30) d_Engine_lowestFreed_29 rfl (by decide) ?_
        refine VW.icmp_ne (tgt := 66) (pc' := 33) d_Engine_lowestFreed_30 rfl rfl (fun c30 => ?_) (fun c30 => ?_)
        case refine_2 => exact absurd c30 (by omega)
        refine VW.iinc (pc' := 69) d_Engine_lowestFreed_66 rfl rfl rfl (by omega) ?_
        refine VW.goto (pc' := 2) d_Engine_lowestFreed_69 rfl ?_
        refine VW.pick [0, 1] ?_
        exact n9
  have l9 := loop n 0 (by omega) rfl
  clear loop
  refine VW.iconst (pc' := 1) d_Engine_lowestFreed_0 rfl (by decide) ?_
  refine VW.istore_n (pc' := 2) d_Engine_lowestFreed_1 rfl rfl ?_
  refine VW.pick [0, 1] ?_
  exact l9
end
