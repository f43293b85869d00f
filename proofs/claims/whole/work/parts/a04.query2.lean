section
variable {K : KT} {P : PT} {J I : IT}
theorem sp_Query_isViewable {q : Nat} (hQ : QuW K P q) (hc : 0 ≤ I q 0 ∧ I q 0 ≤ 12) : Sp m_Query_isViewable false (rmv 2 44) (ex K P J I (.inl (some (vI (bI (∀ x, 0 ≤ x → x < I q 0 → quVwG I q x)))))) K P J I [vR (some q)] := by
  refine Sp.ofV (by decide) (Or.inr rfl) rfl ?_
  have loop : ∀ (l : Nat) (x : Int), x + l = I q 0 → 0 ≤ x → (∀ y, 0 ≤ y → y < x → quVwG I q y) → VW m_Query_isViewable false (rmv 2 44) (ex K P J I (.inl (some (vI (bI (∀ x, 0 ≤ x → x < I q 0 → quVwG I q x)))))) K P J I 0 0 2 [(0, vR (some q)), (1, vI x)] [] := by
    intro l
    induction l with
    | zero =>
      intro x hx h0 hn
      have e : bI (∀ x, 0 ≤ x → x < I q 0 → quVwG I q x) = 1 := bI1 (fun y y0 y1 => hn y y0 (by omega))
      refine VW.iload_n (pc' := 3) d_Query_isViewable_2 rfl rfl ?_
      refine VW.aload_n (pc' := 4) d_Query_isViewable_3 rfl rfl ?_
      refine VW.gI (ci := 4) (T := T4) (N := 13) (k := 0) (k' := 0) (pc' := 7) d_Query_isViewable_4 rfl lk_Query_33 in4 rfl rfl rfl rfl (by first | exact hQ.k | exact hQ.k2 | exact hQ.k3 | exact hQ.k4 | exact hQ.k5 | exact hQ.k6 | exact hQ.k8 | exact hQ.k12) (by first | exact hQ.p2 | exact hQ.p3 | exact hQ.p4 | exact hQ.p5 | exact hQ.p6 | exact hQ.p8 | exact hQ.p12 | (simp [up2, filI] <;> rfl) | rfl) ?_
      refine VW.icmp_ge (tgt := 81) (pc' := 10) d_Query_isViewable_7 rfl rfl (fun c7 => ?_) (fun c7 => ?_)
      · refine VW.iconst (pc' := 82) d_Query_isViewable_81 rfl (by decide) ?_
        exact VW.iret d_Query_isViewable_82 rfl rfl (Nat.zero_le _) (Nat.zero_le _) (by rw [e]; exact ex_rf)
      · exfalso; omega
    | succ l ih =>
      intro x hx h0 hn
      have nx : quVwG I q x → VW m_Query_isViewable false (rmv 2 44) (ex K P J I (.inl (some (vI (bI (∀ x, 0 ≤ x → x < I q 0 → quVwG I q x)))))) K P J I 0 0 2 [(0, vR (some q)), (1, vI (x + 1))] [] := fun z => ih (x + 1) (by omega) (by omega) (fun y y0 y1 => by
        by_cases h : y = x
        · rw [h]; exact z
        · exact hn y y0 (by omega))
      have no : I (q + 3) x ≠ 0 → ¬ quFlt I q x → I (q + 3) x ≠ 5 → ¬ quInn I q x → ¬ (x = I q 0 - 1 ∧ quGrp I q x) → bI (∀ x, 0 ≤ x → x < I q 0 → quVwG I q x) = 0 := fun h1 h2 h3 h4 h5 => bI0 (fun h => (h x h0 (by omega)).elim (fun z => z.elim h1 (fun z => z.elim h2 (fun z => z.elim h3 h4))) h5)
      clear ih hn
      refine VW.iload_n (pc' := 3) d_Query_isViewable_2 rfl rfl ?_
      refine VW.aload_n (pc' := 4) d_Query_isViewable_3 rfl rfl ?_
      refine VW.gI (ci := 4) (T := T4) (N := 13) (k := 0) (k' := 0) (pc' := 7) d_Query_isViewable_4 rfl lk_Query_33 in4 rfl rfl rfl rfl (by first | exact hQ.k | exact hQ.k2 | exact hQ.k3 | exact hQ.k4 | exact hQ.k5 | exact hQ.k6 | exact hQ.k8 | exact hQ.k12) (by first | exact hQ.p2 | exact hQ.p3 | exact hQ.p4 | exact hQ.p5 | exact hQ.p6 | exact hQ.p8 | exact hQ.p12 | (simp [up2, filI] <;> rfl) | rfl) ?_
      refine VW.icmp_ge (tgt := 81) (pc' := 10) d_Query_isViewable_7 rfl rfl (fun c7 => ?_) (fun c7 => ?_)
      · exfalso; omega
      · refine VW.aload_n (pc' := 11) d_Query_isViewable_10 rfl rfl ?_
        refine VW.gP (ci := 4) (T := T4) (N := 13) (k := 2) (k' := 2) (pc' := 14) d_Query_isViewable_11 rfl lk_Query_9 in4 rfl rfl rfl rfl (by first | exact hQ.k | exact hQ.k2 | exact hQ.k3 | exact hQ.k4 | exact hQ.k5 | exact hQ.k6 | exact hQ.k8 | exact hQ.k12) (by first | exact hQ.p2 | exact hQ.p3 | exact hQ.p4 | exact hQ.p5 | exact hQ.p6 | exact hQ.p8 | exact hQ.p12 | (simp [up2, filI] <;> rfl) | rfl) ?_
        refine VW.iload_n (pc' := 15) d_Query_isViewable_14 rfl rfl ?_
        refine VW.ild (pc' := 16) d_Query_isViewable_15 rfl (by first | exact hQ.k | exact hQ.k2 | exact hQ.k3 | exact hQ.k4 | exact hQ.k5 | exact hQ.k6 | exact hQ.k8 | exact hQ.k12) (by omega) (by omega) (by first | exact hQ.p2 | exact hQ.p3 | exact hQ.p4 | exact hQ.p5 | exact hQ.p6 | exact hQ.p8 | exact hQ.p12 | (simp [up2, filI] <;> rfl) | rfl) ?_
        refine VW.if_eq (tgt := 45) (pc' := 19) d_Query_isViewable_16 rfl rfl (fun c16 => ?_) (fun c16 => ?_)
        · try have e16 := bIe c16
          refine VW.iconst (pc' := 46) d_Query_isViewable_45 rfl (by decide) ?_
          refine VW.goto (pc' := 50) d_Query_isViewable_46 rfl ?_
          refine VW.istore_n (pc' := 51) d_Query_isViewable_50 rfl rfl ?_
          refine VW.iload_n (pc' := 52) d_Query_isViewable_51 rfl rfl ?_
          refine VW.if_ne (tgt := 75) (pc' := 55) d_Query_isViewable_52 rfl rfl (fun _ => ?_) (fun c52 => absurd c52 (by decide))
          refine VW.iinc (pc' := 78) d_Query_isViewable_75 rfl rfl rfl (by omega) ?_
          refine VW.goto (pc' := 2) d_Query_isViewable_78 rfl ?_
          refine VW.pick [0, 1] ?_
          first | exact nx (Or.inl (Or.inl c16)) | exact nx (Or.inl (Or.inr (Or.inl e24))) | exact nx (Or.inl (Or.inr (Or.inr (Or.inl c34)))) | exact nx (Or.inl (Or.inr (Or.inr (Or.inr e42)))) | exact nx (Or.inr ⟨c62, e70⟩)
        · try have e16 := bIn c16
          refine VW.aload_n (pc' := 20) d_Query_isViewable_19 rfl rfl ?_
          refine VW.iload_n (pc' := 21) d_Query_isViewable_20 rfl rfl ?_
          refine VW.cV (ci := 4) (T := T4) (N := 13) (pc' := 24) d_Query_isViewable_21 rfl mv_Query_isFilter lk_Query_64 rfl (by first | exact hQ.k | exact hQ.k2 | exact hQ.k3 | exact hQ.k4 | exact hQ.k5 | exact hQ.k6 | exact hQ.k8 | exact hQ.k12) rfl rfl rfl (Nat.le_refl _) (Nat.le_refl _) (sp_Query_isFilter hQ (by omega)) rfl rfl ?_
          refine VW.if_ne (tgt := 45) (pc' := 27) d_Query_isViewable_24 rfl rfl (fun c24 => ?_) (fun c24 => ?_)
          · try have e24 := bIn c24
            refine VW.iconst (pc' := 46) d_Query_isViewable_45 rfl (by decide) ?_
            refine VW.goto (pc' := 50) d_Query_isViewable_46 rfl ?_
            refine VW.istore_n (pc' := 51) d_Query_isViewable_50 rfl rfl ?_
            refine VW.iload_n (pc' := 52) d_Query_isViewable_51 rfl rfl ?_
            refine VW.if_ne (tgt := 75) (pc' := 55) d_Query_isViewable_52 rfl rfl (fun _ => ?_) (fun c52 => absurd c52 (by decide))
            refine VW.iinc (pc' := 78) d_Query_isViewable_75 rfl rfl rfl (by omega) ?_
            refine VW.goto (pc' := 2) d_Query_isViewable_78 rfl ?_
            refine VW.pick [0, 1] ?_
            first | exact nx (Or.inl (Or.inl c16)) | exact nx (Or.inl (Or.inr (Or.inl e24))) | exact nx (Or.inl (Or.inr (Or.inr (Or.inl c34)))) | exact nx (Or.inl (Or.inr (Or.inr (Or.inr e42)))) | exact nx (Or.inr ⟨c62, e70⟩)
          · try have e24 := bIe c24
            refine VW.aload_n (pc' := 28) d_Query_isViewable_27 rfl rfl ?_
            refine VW.gP (ci := 4) (T := T4) (N := 13) (k := 2) (k' := 2) (pc' := 31) d_Query_isViewable_28 rfl lk_Query_9 in4 rfl rfl rfl rfl (by first | exact hQ.k | exact hQ.k2 | exact hQ.k3 | exact hQ.k4 | exact hQ.k5 | exact hQ.k6 | exact hQ.k8 | exact hQ.k12) (by first | exact hQ.p2 | exact hQ.p3 | exact hQ.p4 | exact hQ.p5 | exact hQ.p6 | exact hQ.p8 | exact hQ.p12 | (simp [up2, filI] <;> rfl) | rfl) ?_
            refine VW.iload_n (pc' := 32) d_Query_isViewable_31 rfl rfl ?_
            refine VW.ild (pc' := 33) d_Query_isViewable_32 rfl (by first | exact hQ.k | exact hQ.k2 | exact hQ.k3 | exact hQ.k4 | exact hQ.k5 | exact hQ.k6 | exact hQ.k8 | exact hQ.k12) (by omega) (by omega) (by first | exact hQ.p2 | exact hQ.p3 | exact hQ.p4 | exact hQ.p5 | exact hQ.p6 | exact hQ.p8 | exact hQ.p12 | (simp [up2, filI] <;> rfl) | rfl) ?_
            refine VW.iconst (pc' := 34) d_Query_isViewable_33 rfl (by decide) ?_
            refine VW.icmp_eq (tgt := 45) (pc' := 37) d_Query_isViewable_34 rfl rfl (fun c34 => ?_) (fun c34 => ?_)
            · refine VW.iconst (pc' := 46) d_Query_isViewable_45 rfl (by decide) ?_
              refine VW.goto (pc' := 50) d_Query_isViewable_46 rfl ?_
              refine VW.istore_n (pc' := 51) d_Query_isViewable_50 rfl rfl ?_
              refine VW.iload_n (pc' := 52) d_Query_isViewable_51 rfl rfl ?_
              refine VW.if_ne (tgt := 75) (pc' := 55) d_Query_isViewable_52 rfl rfl (fun _ => ?_) (fun c52 => absurd c52 (by decide))
              refine VW.iinc (pc' := 78) d_Query_isViewable_75 rfl rfl rfl (by omega) ?_
              refine VW.goto (pc' := 2) d_Query_isViewable_78 rfl ?_
              refine VW.pick [0, 1] ?_
              first | exact nx (Or.inl (Or.inl c16)) | exact nx (Or.inl (Or.inr (Or.inl e24))) | exact nx (Or.inl (Or.inr (Or.inr (Or.inl c34)))) | exact nx (Or.inl (Or.inr (Or.inr (Or.inr e42)))) | exact nx (Or.inr ⟨c62, e70⟩)
            · refine VW.aload_n (pc' := 38) d_Query_isViewable_37 rfl rfl ?_
              refine VW.iload_n (pc' := 39) d_Query_isViewable_38 rfl rfl ?_
              refine VW.cV (ci := 4) (T := T4) (N := 13) (pc' := 42) d_Query_isViewable_39 rfl mv_Query_isInnerJoin lk_Query_81 rfl (by first | exact hQ.k | exact hQ.k2 | exact hQ.k3 | exact hQ.k4 | exact hQ.k5 | exact hQ.k6 | exact hQ.k8 | exact hQ.k12) rfl rfl rfl (Nat.le_refl _) (Nat.le_refl _) (sp_Query_isInnerJoin hQ (by omega)) rfl rfl ?_
              refine VW.if_eq (tgt := 49) (pc' := 45) d_Query_isViewable_42 rfl rfl (fun c42 => ?_) (fun c42 => ?_)
              · try have e42 := bIe c42
                refine VW.iconst (pc' := 50) d_Query_isViewable_49 rfl (by decide) ?_
                refine VW.istore_n (pc' := 51) d_Query_isViewable_50 rfl rfl ?_
                refine VW.iload_n (pc' := 52) d_Query_isViewable_51 rfl rfl ?_
                refine VW.if_ne (tgt := 75) (pc' := 55) d_Query_isViewable_52 rfl rfl (fun c52 => absurd c52 (by decide)) (fun _ => ?_)
                refine VW.iload_n (pc' := 56) d_Query_isViewable_55 rfl rfl ?_
                refine VW.aload_n (pc' := 57) d_Query_isViewable_56 rfl rfl ?_
                refine VW.gI (ci := 4) (T := T4) (N := 13) (k := 0) (k' := 0) (pc' := 60) d_Query_isViewable_57 rfl lk_Query_33 in4 rfl rfl rfl rfl (by first | exact hQ.k | exact hQ.k2 | exact hQ.k3 | exact hQ.k4 | exact hQ.k5 | exact hQ.k6 | exact hQ.k8 | exact hQ.k12) (by first | exact hQ.p2 | exact hQ.p3 | exact hQ.p4 | exact hQ.p5 | exact hQ.p6 | exact hQ.p8 | exact hQ.p12 | (simp [up2, filI] <;> rfl) | rfl) ?_
                refine VW.iconst (pc' := 61) d_Query_isViewable_60 rfl (by decide) ?_
                refine VW.isub (pc' := 62) d_Query_isViewable_61 rfl (by omega) ?_
                refine VW.icmp_ne (tgt := 73) (pc' := 65) d_Query_isViewable_62 rfl rfl (fun c62 => ?_) (fun c62 => ?_)
                · refine VW.iconst (pc' := 74) d_Query_isViewable_73 rfl (by decide) ?_
                  exact VW.iret d_Query_isViewable_74 rfl rfl (Nat.zero_le _) (Nat.zero_le _) (by first | (rw [no c16 e24 c34 e42 (fun z => c62 z.1)]; exact ex_rf) | (rw [no c16 e24 c34 e42 (fun z => e70 z.2)]; exact ex_rf))
                · refine VW.aload_n (pc' := 66) d_Query_isViewable_65 rfl rfl ?_
                  refine VW.iload_n (pc' := 67) d_Query_isViewable_66 rfl rfl ?_
                  refine VW.cV (ci := 4) (T := T4) (N := 13) (pc' := 70) d_Query_isViewable_67 rfl mv_Query_isViewableGroup lk_Query_84 rfl (by first | exact hQ.k | exact hQ.k2 | exact hQ.k3 | exact hQ.k4 | exact hQ.k5 | exact hQ.k6 | exact hQ.k8 | exact hQ.k12) rfl rfl rfl (Nat.le_refl _) (Nat.le_refl _) (sp_Query_isViewableGroup hQ (by omega)) rfl rfl ?_
                  refine VW.if_ne (tgt := 75) (pc' := 73) d_Query_isViewable_70 rfl rfl (fun c70 => ?_) (fun c70 => ?_)
                  · try have e70 := bIn c70
                    refine VW.iinc (pc' := 78) d_Query_isViewable_75 rfl rfl rfl (by omega) ?_
                    refine VW.goto (pc' := 2) d_Query_isViewable_78 rfl ?_
                    refine VW.pick [0, 1] ?_
                    first | exact nx (Or.inl (Or.inl c16)) | exact nx (Or.inl (Or.inr (Or.inl e24))) | exact nx (Or.inl (Or.inr (Or.inr (Or.inl c34)))) | exact nx (Or.inl (Or.inr (Or.inr (Or.inr e42)))) | exact nx (Or.inr ⟨c62, e70⟩)
                  · try have e70 := bIe c70
                    refine VW.iconst (pc' := 74) d_Query_isViewable_73 rfl (by decide) ?_
                    exact VW.iret d_Query_isViewable_74 rfl rfl (Nat.zero_le _) (Nat.zero_le _) (by first | (rw [no c16 e24 c34 e42 (fun z => c62 z.1)]; exact ex_rf) | (rw [no c16 e24 c34 e42 (fun z => e70 z.2)]; exact ex_rf))
              · try have e42 := bIn c42
                refine VW.iconst (pc' := 46) d_Query_isViewable_45 rfl (by decide) ?_
                refine VW.goto (pc' := 50) d_Query_isViewable_46 rfl ?_
                refine VW.istore_n (pc' := 51) d_Query_isViewable_50 rfl rfl ?_
                refine VW.iload_n (pc' := 52) d_Query_isViewable_51 rfl rfl ?_
                refine VW.if_ne (tgt := 75) (pc' := 55) d_Query_isViewable_52 rfl rfl (fun _ => ?_) (fun c52 => absurd c52 (by decide))
                refine VW.iinc (pc' := 78) d_Query_isViewable_75 rfl rfl rfl (by omega) ?_
                refine VW.goto (pc' := 2) d_Query_isViewable_78 rfl ?_
                refine VW.pick [0, 1] ?_
                first | exact nx (Or.inl (Or.inl c16)) | exact nx (Or.inl (Or.inr (Or.inl e24))) | exact nx (Or.inl (Or.inr (Or.inr (Or.inl c34)))) | exact nx (Or.inl (Or.inr (Or.inr (Or.inr e42)))) | exact nx (Or.inr ⟨c62, e70⟩)
  have l := loop (I q 0).toNat 0 (by omega) (Int.le_refl _) (fun y y0 y1 => by omega)
  clear loop
  refine VW.iconst (pc' := 1) d_Query_isViewable_0 rfl (by decide) ?_
  refine VW.istore_n (pc' := 2) d_Query_isViewable_1 rfl rfl ?_
  refine VW.nrm ?_
  exact l
theorem sp_Query_init {q : Nat} (hq : K q = some (4, 0)) (hf : ∀ j, 0 < j → j < 32 → K (q + j) = none) : Sp m_Query_init false ({ frames := 1, cells := 7, slots := 105, locals := 40 } : Room) (ex (upK (upK (upK (upK (upK (upK (upK K (q + 3) (100, 12)) (q + 4) (100, 48)) (q + 5) (100, 12)) (q + 6) (100, 12)) (q + 7) (100, 12)) (q + 9) (100, 6)) (q + 13) (100, 3)) (up2 (up2 (up2 (up2 (up2 (up2 (up2 P q 2 (some (q + 3))) q 3 (some (q + 4))) q 4 (some (q + 5))) q 5 (some (q + 6))) q 6 (some (q + 7))) q 8 (some (q + 9))) q 12 (some (q + 13))) J I (.inl none)) K P J I [vR (some q)] := by
  refine Sp.ofV (by decide) (Or.inr rfl) rfl ?_
  refine VW.aload_n (pc' := 1) d_Query_init_0 rfl rfl ?_
  refine VW.objI (pc' := 4) d_Query_init_1 rfl lk_Query_3 rfl rfl rfl ?_
  refine VW.aload_n (pc' := 5) d_Query_init_4 rfl rfl ?_
  refine VW.bipush (pc' := 7) d_Query_init_5 rfl (by decide) ?_
  refine VW.newI (q + 3) (N := 12) (pc' := 9) d_Query_init_7 rfl kw_arrayClass_int rfl (by decide) (hf 3 (by decide) (by decide)) (by decide) (by decide) ?_
  refine VW.pPF (ci := 4) (T := T4) (N := 13) (k := 2) (k' := 2) (ty := ty4) (pc' := 12) d_Query_init_9 rfl lk_Query_9 in4 tk4 nm4 rfl rfl rfl rfl rfl rfl rfl (by first | exact Or.inl ⟨_, rfl⟩ | exact Or.inr ⟨_, rfl⟩) ((upK_o _ _ (by omega)).trans (hq)) ?_
  refine VW.aload_n (pc' := 13) d_Query_init_12 rfl rfl ?_
  refine VW.bipush (pc' := 15) d_Query_init_13 rfl (by decide) ?_
  refine VW.newI (q + 4) (N := 48) (pc' := 17) d_Query_init_15 rfl kw_arrayClass_int rfl (by decide) ((upK_o _ _ (by omega)).trans (hf 4 (by decide) (by decide))) (by decide) (by decide) ?_
  refine VW.pPF (ci := 4) (T := T4) (N := 13) (k := 3) (k' := 3) (ty := ty4) (pc' := 20) d_Query_init_17 rfl lk_Query_15 in4 tk4 nm4 rfl rfl rfl rfl rfl rfl rfl (by first | exact Or.inl ⟨_, rfl⟩ | exact Or.inr ⟨_, rfl⟩) ((upK_o _ _ (by omega)).trans ((upK_o _ _ (by omega)).trans (hq))) ?_
  refine VW.aload_n (pc' := 21) d_Query_init_20 rfl rfl ?_
  refine VW.bipush (pc' := 23) d_Query_init_21 rfl (by decide) ?_
  refine VW.newI (q + 5) (N := 12) (pc' := 25) d_Query_init_23 rfl kw_arrayClass_int rfl (by decide) ((upK_o _ _ (by omega)).trans ((upK_o _ _ (by omega)).trans (hf 5 (by decide) (by decide)))) (by decide) (by decide) ?_
  refine VW.pPF (ci := 4) (T := T4) (N := 13) (k := 4) (k' := 4) (ty := ty4) (pc' := 28) d_Query_init_25 rfl lk_Query_18 in4 tk4 nm4 rfl rfl rfl rfl rfl rfl rfl (by first | exact Or.inl ⟨_, rfl⟩ | exact Or.inr ⟨_, rfl⟩) ((upK_o _ _ (by omega)).trans ((upK_o _ _ (by omega)).trans ((upK_o _ _ (by omega)).trans (hq)))) ?_
  refine VW.aload_n (pc' := 29) d_Query_init_28 rfl rfl ?_
  refine VW.bipush (pc' := 31) d_Query_init_29 rfl (by decide) ?_
  refine VW.newI (q + 6) (N := 12) (pc' := 33) d_Query_init_31 rfl kw_arrayClass_int rfl (by decide) ((upK_o _ _ (by omega)).trans ((upK_o _ _ (by omega)).trans ((upK_o _ _ (by omega)).trans (hf 6 (by decide) (by decide))))) (by decide) (by decide) ?_
  refine VW.pPF (ci := 4) (T := T4) (N := 13) (k := 5) (k' := 5) (ty := ty4) (pc' := 36) d_Query_init_33 rfl lk_Query_21 in4 tk4 nm4 rfl rfl rfl rfl rfl rfl rfl (by first | exact Or.inl ⟨_, rfl⟩ | exact Or.inr ⟨_, rfl⟩) ((upK_o _ _ (by omega)).trans ((upK_o _ _ (by omega)).trans ((upK_o _ _ (by omega)).trans ((upK_o _ _ (by omega)).trans (hq))))) ?_
  refine VW.aload_n (pc' := 37) d_Query_init_36 rfl rfl ?_
  refine VW.bipush (pc' := 39) d_Query_init_37 rfl (by decide) ?_
  refine VW.newI (q + 7) (N := 12) (pc' := 41) d_Query_init_39 rfl kw_arrayClass_int rfl (by decide) ((upK_o _ _ (by omega)).trans ((upK_o _ _ (by omega)).trans ((upK_o _ _ (by omega)).trans ((upK_o _ _ (by omega)).trans (hf 7 (by decide) (by decide)))))) (by decide) (by decide) ?_
  refine VW.pPF (ci := 4) (T := T4) (N := 13) (k := 6) (k' := 6) (ty := ty4) (pc' := 44) d_Query_init_41 rfl lk_Query_24 in4 tk4 nm4 rfl rfl rfl rfl rfl rfl rfl (by first | exact Or.inl ⟨_, rfl⟩ | exact Or.inr ⟨_, rfl⟩) ((upK_o _ _ (by omega)).trans ((upK_o _ _ (by omega)).trans ((upK_o _ _ (by omega)).trans ((upK_o _ _ (by omega)).trans ((upK_o _ _ (by omega)).trans (hq)))))) ?_
  refine VW.aload_n (pc' := 45) d_Query_init_44 rfl rfl ?_
  refine VW.bipush (pc' := 47) d_Query_init_45 rfl (by decide) ?_
  refine VW.newI (q + 9) (N := 6) (pc' := 49) d_Query_init_47 rfl kw_arrayClass_int rfl (by decide) ((upK_o _ _ (by omega)).trans ((upK_o _ _ (by omega)).trans ((upK_o _ _ (by omega)).trans ((upK_o _ _ (by omega)).trans ((upK_o _ _ (by omega)).trans (hf 9 (by decide) (by decide))))))) (by decide) (by decide) ?_
  refine VW.pPF (ci := 4) (T := T4) (N := 13) (k := 8) (k' := 8) (ty := ty4) (pc' := 52) d_Query_init_49 rfl lk_Query_27 in4 tk4 nm4 rfl rfl rfl rfl rfl rfl rfl (by first | exact Or.inl ⟨_, rfl⟩ | exact Or.inr ⟨_, rfl⟩) ((upK_o _ _ (by omega)).trans ((upK_o _ _ (by omega)).trans ((upK_o _ _ (by omega)).trans ((upK_o _ _ (by omega)).trans ((upK_o _ _ (by omega)).trans ((upK_o _ _ (by omega)).trans (hq))))))) ?_
  refine VW.aload_n (pc' := 53) d_Query_init_52 rfl rfl ?_
  refine VW.iconst (pc' := 54) d_Query_init_53 rfl (by decide) ?_
  refine VW.newI (q + 13) (N := 3) (pc' := 56) d_Query_init_54 rfl kw_arrayClass_int rfl (by decide) ((upK_o _ _ (by omega)).trans ((upK_o _ _ (by omega)).trans ((upK_o _ _ (by omega)).trans ((upK_o _ _ (by omega)).trans ((upK_o _ _ (by omega)).trans ((upK_o _ _ (by omega)).trans (hf 13 (by decide) (by decide)))))))) (by decide) (by decide) ?_
  refine VW.pPF (ci := 4) (T := T4) (N := 13) (k := 12) (k' := 12) (ty := ty4) (pc' := 59) d_Query_init_56 rfl lk_Query_30 in4 tk4 nm4 rfl rfl rfl rfl rfl rfl rfl (by first | exact Or.inl ⟨_, rfl⟩ | exact Or.inr ⟨_, rfl⟩) ((upK_o _ _ (by omega)).trans ((upK_o _ _ (by omega)).trans ((upK_o _ _ (by omega)).trans ((upK_o _ _ (by omega)).trans ((upK_o _ _ (by omega)).trans ((upK_o _ _ (by omega)).trans ((upK_o _ _ (by omega)).trans (hq)))))))) ?_
  exact VW.vret d_Query_init_59 rfl (by decide) (by decide) ex_rf
end
