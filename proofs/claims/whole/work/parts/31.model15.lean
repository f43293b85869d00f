section
variable {K : KT} {P : PT} {J I : IT}
theorem MB.f2 {S : IT} (h : MB I) (f : ∀ o k, o ≠ 239 → o ≠ 240 → S o k = I o k) : MB S :=
  h.of (f 100 0 (by decide) (by decide)) (f 100 8 (by decide) (by decide)) (f 100 19 (by decide) (by decide)) (fun k => f 201 k (by decide) (by decide)) (fun k => f 202 k (by decide) (by decide)) (fun k => f 206 k (by decide) (by decide)) (fun k => f 211 k (by decide) (by decide)) (fun k => by rw [f 214 k (by decide) (by decide)]; exact h.row k) (fun k => f 223 k (by decide) (by decide)) (fun k => by rw [f 236 k (by decide) (by decide)]; exact h.who k)
/-- the row is there and its role sees it -/
def mDelF (S : IT) (i s t key : Int) : Prop := mfind S s t key ≠ -1 ∧ mSeen S (S 220 i) s t (mfind S s t key)
noncomputable def mDelX0 (S : IT) (s t key : Int) : IT := up2 (mClr S 384) 239 (64 * t + mfind S s t key) 1
/-- all that goes with it is marked -/
noncomputable def mDelX (S : IT) (s t key : Int) : IT := mSpread s 385 (mDelX0 S s t key)
noncomputable def mDelI (S : IT) (i s t key : Int) : IT := if bI (mDelF S i s t key) = 1 then mWdE i s (mDelX S s t key) else S
theorem mDelI_1 {S : IT} {i s t key : Int} (h : mDelF S i s t key) : mDelI S i s t key = mWdE i s (mDelX S s t key) := if_pos (bI1 h)
theorem mDelI_0 {S : IT} {i s t key : Int} (h : ¬ mDelF S i s t key) : mDelI S i s t key = S := if_neg (by rw [bI0 h]; decide)
def mDelQ (S : IT) (i s t key : Int) : Prop := mDelF S i s t key ∧ ∀ j, 0 ≤ j → j < 384 → mCanG (mDelX S s t key) s j
theorem mDelX0_fr {S : IT} {s t key : Int} (o : Nat) (k : Int) (h1 : o ≠ 239) (h2 : o ≠ 240) : mDelX0 S s t key o k = S o k := by
  unfold mDelX0
  rw [show up2 (mClr S 384) 239 (64 * t + mfind S s t key) 1 o k = mClr S 384 o k from if_neg (fun z => h1 z.1)]
  exact mClr_fr o k h1 h2
theorem mDelX_fr {S : IT} {s t key : Int} (o : Nat) (k : Int) (h1 : o ≠ 239) (h2 : o ≠ 240) : mDelX S s t key o k = S o k := (mSpread_fr 385 o k h1).trans (mDelX0_fr o k h1 h2)
theorem ex_cong {K : KT} {P : PT} {J I I' : IT} {r r' : Option AV ⊕ String} (h1 : I' = I) (h2 : r' = r) : ex K P J I r r' K P J I' := ⟨h2, rfl, rfl, rfl, h1⟩
theorem wd_main {S : IT} {i s t key : Int} (hM : MW K P) (hb : MB S) (hs : 0 ≤ s ∧ s < 4) (ht : 0 ≤ t ∧ t < 6) (hi : 0 ≤ i ∧ i < 60) (h41 : S 100 41 = 0) (hk : S 229 i = key) : VW m_Model_wantsDelete false (rmv 4 100) (ex K P J (mDelI S i s t key) (.inl (some (vI (bI (mDelQ S i s t key)))))) K P J S 0 0 26 [(0, vR (some 100)), (1, vI i), (2, vI t), (3, vI s)] [] := by
  have r0 := hb.row (6 * s + t)
  have m0 := mfind_rg S s t key
  have go : mDelF S i s t key → VW m_Model_wantsDelete false (rmv 4 100) (ex K P J (mDelI S i s t key) (.inl (some (vI (bI (mDelQ S i s t key)))))) K P J S 0 0 65 [(0, vR (some 100)), (1, vI i), (2, vI t), (3, vI s), (4, vI (mfind S s t key))] [] := by
    intro hF
    have f0 := hF.1
    have hX : MB (mDelX S s t key) := hb.f2 mDelX_fr
    have hX0 : MB (mDelX0 S s t key) := hb.f2 mDelX0_fr
    have hw : (ex K P J (mDelI S i s t key) (.inl (some (vI (bI (mDelQ S i s t key)))))) (.inl (some (vI (bI (∀ j, 0 ≤ j → j < 384 → mCanG (mDelX S s t key) s j))))) K P J (mWdE i s (mDelX S s t key)) :=
      ex_cong (mDelI_1 hF).symm (by congr 3; exact bIc ⟨fun z => ⟨hF, z⟩, fun z => z.2⟩)
    have l3 := wd_last (f := mfind S s t key) (t := t) hM hX hs hi ((mDelX_fr 100 41 (by decide) (by decide)).trans h41) hw 384 0 1 rfl andI.z
    clear hw
    have l2 : VW m_Model_wantsDelete false (rmv 4 100) (ex K P J (mDelI S i s t key) (.inl (some (vI (bI (mDelQ S i s t key)))))) K P J (mDelX S s t key) 0 0 217 [(0, vR (some 100)), (1, vI i), (2, vI t), (3, vI s), (4, vI (mfind S s t key)), (5, vI 0)] [] := by
      refine VW.iconst (pc' := 218) d_Model_wantsDelete_217 rfl (by decide) ?_
      refine VW.istore (pc' := 220) d_Model_wantsDelete_218 rfl rfl ?_
      refine VW.iconst (pc' := 221) d_Model_wantsDelete_220 rfl (by decide) ?_
      refine VW.istore (pc' := 223) d_Model_wantsDelete_221 rfl rfl ?_
      refine VW.pick [0, 1, 2, 3, 4, 6, 7] ?_
      exact l3
    have l1 := wd_spread hM hs l2 385 (mDelX0 S s t key) hX0 (by have := (cntI_rg (fun j => mDelX0 S s t key 239 j = 0) 384).2; unfold mLeft; omega) rfl
    clear l2 l3
    have l0 : VW m_Model_wantsDelete false (rmv 4 100) (ex K P J (mDelI S i s t key) (.inl (some (vI (bI (mDelQ S i s t key)))))) K P J (mClr S 384) 0 0 98 [(0, vR (some 100)), (1, vI i), (2, vI t), (3, vI s), (4, vI (mfind S s t key))] [] := by
      refine VW.aload_n (pc' := 99) d_Model_wantsDelete_98 rfl rfl ?_
      refine VW.gP (ci := 11) (T := T11) (N := 94) (k := 39) (k' := 39) (pc' := 102) d_Model_wantsDelete_99 rfl lk_Model_114 in11 rfl rfl rfl rfl (hM.k rfl) (hM.p (r := some 239) 39 rfl rfl) ?_
      refine VW.bipush (pc' := 104) d_Model_wantsDelete_102 rfl (by decide) ?_
      refine VW.iload_n (pc' := 105) d_Model_wantsDelete_104 rfl rfl ?_
      refine VW.imul (pc' := 106) d_Model_wantsDelete_105 rfl (by omega) ?_
      refine VW.iload (pc' := 108) d_Model_wantsDelete_106 rfl rfl ?_
      refine VW.iadd (pc' := 109) d_Model_wantsDelete_108 rfl (by omega) ?_
      refine VW.iconst (pc' := 110) d_Model_wantsDelete_109 rfl (by decide) ?_
      refine VW.zast (pc' := 111) d_Model_wantsDelete_110 rfl (hM.k rfl) (by omega) (by omega) (by omega) ?_
      refine VW.iconst (pc' := 112) d_Model_wantsDelete_111 rfl (by decide) ?_
      refine VW.istore (pc' := 114) d_Model_wantsDelete_112 rfl rfl ?_
      refine VW.nrm ?_
      exact l1
    have lc := wd_clear hM l0 384 0 rfl (Int.le_refl 0)
    rw [mClr_0] at lc
    clear l0 l1
    refine VW.iconst (pc' := 66) d_Model_wantsDelete_65 rfl (by decide) ?_
    refine VW.istore (pc' := 68) d_Model_wantsDelete_66 rfl rfl ?_
    refine VW.nrm ?_
    exact lc
  refine VW.aload_n (pc' := 27) d_Model_wantsDelete_26 rfl rfl ?_
  refine VW.iload_n (pc' := 28) d_Model_wantsDelete_27 rfl rfl ?_
  refine VW.iload_n (pc' := 29) d_Model_wantsDelete_28 rfl rfl ?_
  refine VW.aload_n (pc' := 30) d_Model_wantsDelete_29 rfl rfl ?_
  refine VW.gP (ci := 11) (T := T11) (N := 94) (k := 29) (k' := 29) (pc' := 33) d_Model_wantsDelete_30 rfl lk_Model_86 in11 rfl rfl rfl rfl (hM.k rfl) (hM.p (r := some 229) 29 rfl rfl) ?_
  refine VW.iload_n (pc' := 34) d_Model_wantsDelete_33 rfl rfl ?_
  refine VW.ild (pc' := 35) d_Model_wantsDelete_34 rfl (hM.k rfl) (by omega) (by omega) (by first | exact hk | rfl) ?_
  refine VW.cV (ci := 11) (T := T11) (N := 94) (pc' := 38) d_Model_wantsDelete_35 rfl mv_Model_find lk_Model_305 rfl (hM.k rfl) rfl rfl rfl (Nat.le_refl _) (Nat.le_refl _) (sp_Model_find hM (by omega) (by omega) (by omega)) rfl rfl ?_
  refine VW.istore (pc' := 40) d_Model_wantsDelete_38 rfl rfl ?_
  refine VW.iload (pc' := 42) d_Model_wantsDelete_40 rfl rfl ?_
  refine VW.iconst (pc' := 43) d_Model_wantsDelete_42 rfl (by decide) ?_
  refine VW.icmp_eq (tgt := 63) (pc' := 46) d_Model_wantsDelete_43 rfl rfl (fun c43 => ?_) (fun c43 => ?_)
  · refine VW.iconst (pc' := 64) d_Model_wantsDelete_63 rfl (by decide) ?_
    exact VW.iret d_Model_wantsDelete_64 rfl rfl (Nat.zero_le _) (Nat.zero_le _) (by first | exact ex_cong (mDelI_0 (fun z => z.1 c43)).symm (by rw [bI0 (fun z => z.1.1 c43)]) | exact ex_cong (mDelI_0 (fun z => e60 z.2)).symm (by rw [bI0 (fun z => e60 z.1.2)]))
  · refine VW.aload_n (pc' := 47) d_Model_wantsDelete_46 rfl rfl ?_
    refine VW.aload_n (pc' := 48) d_Model_wantsDelete_47 rfl rfl ?_
    refine VW.gP (ci := 11) (T := T11) (N := 94) (k := 20) (k' := 20) (pc' := 51) d_Model_wantsDelete_48 rfl lk_Model_58 in11 rfl rfl rfl rfl (hM.k rfl) (hM.p (r := some 220) 20 rfl rfl) ?_
    refine VW.iload_n (pc' := 52) d_Model_wantsDelete_51 rfl rfl ?_
    refine VW.ild (pc' := 53) d_Model_wantsDelete_52 rfl (hM.k rfl) (by omega) (by omega) (by first | exact hk | rfl) ?_
    refine VW.iload_n (pc' := 54) d_Model_wantsDelete_53 rfl rfl ?_
    refine VW.iload_n (pc' := 55) d_Model_wantsDelete_54 rfl rfl ?_
    refine VW.iload (pc' := 57) d_Model_wantsDelete_55 rfl rfl ?_
    refine VW.cV (ci := 11) (T := T11) (N := 94) (pc' := 60) d_Model_wantsDelete_57 rfl mv_Model_isSeen lk_Model_325 rfl (hM.k rfl) rfl rfl rfl (Nat.le_refl _) (Nat.le_refl _) (sp_Model_isSeen hM hb (by omega) (by omega) (by omega)) rfl rfl ?_
    refine VW.if_ne (tgt := 65) (pc' := 63) d_Model_wantsDelete_60 rfl rfl (fun c60 => ?_) (fun c60 => ?_)
    · try have e60 := bIn c60
      refine VW.nrm ?_
      exact go ⟨c43, e60⟩
    · try have e60 := bIe c60
      refine VW.iconst (pc' := 64) d_Model_wantsDelete_63 rfl (by decide) ?_
      exact VW.iret d_Model_wantsDelete_64 rfl rfl (Nat.zero_le _) (Nat.zero_le _) (by first | exact ex_cong (mDelI_0 (fun z => z.1 c43)).symm (by rw [bI0 (fun z => z.1.1 c43)]) | exact ex_cong (mDelI_0 (fun z => e60 z.2)).symm (by rw [bI0 (fun z => e60 z.1.2)]))
theorem sp_Model_wantsDelete {i : Int} (hM : MW K P) (hb : MB I) (hi : 0 ≤ i ∧ i < 60) (ht : 0 ≤ I 228 i ∧ I 228 i < 6) (hn : 0 ≤ I 233 i ∧ I 233 i ≤ 2040) (h41 : I 100 41 = 0) : Sp m_Model_wantsDelete false (rmv 4 100) (ex K P J (mDelI (mReadsKey I i (I 228 i) (I 229 i)) i (I 223 i) (I 228 i) (I 229 i)) (.inl (some (vI (bI (mDelQ (mReadsKey I i (I 228 i) (I 229 i)) i (I 223 i) (I 228 i) (I 229 i))))))) K P J I [vR (some 100), vI i] := by
  refine Sp.ofV (by decide) (Or.inr rfl) rfl ?_
  have p0 := hb.pla i
  have pre : ∀ S, S = (mReadsKey I i (I 228 i) (I 229 i)) → VW m_Model_wantsDelete false (rmv 4 100) (ex K P J (mDelI (mReadsKey I i (I 228 i) (I 229 i)) i (I 223 i) (I 228 i) (I 229 i)) (.inl (some (vI (bI (mDelQ (mReadsKey I i (I 228 i) (I 229 i)) i (I 223 i) (I 228 i) (I 229 i))))))) K P J S 0 0 26 [(0, vR (some 100)), (1, vI i), (2, vI (I 228 i)), (3, vI (I 223 i))] [] := by
    intro S eS
    have fr : ∀ o k, o ≠ 233 → o ≠ 234 → o ≠ 235 → S o k = I o k := fun o k h1 h2 h3 => by rw [eS]; exact mReadsKey_fr o k h1 h2 h3
    rw [← eS]
    exact wd_main hM (hb.fr fr) p0 ht hi ((fr 100 41 (by decide) (by decide) (by decide)).trans h41) (fr 229 i (by decide) (by decide) (by decide))
  refine VW.aload_n (pc' := 1) d_Model_wantsDelete_0 rfl rfl ?_
  refine VW.gP (ci := 11) (T := T11) (N := 94) (k := 28) (k' := 28) (pc' := 4) d_Model_wantsDelete_1 rfl lk_Model_83 in11 rfl rfl rfl rfl (hM.k rfl) (hM.p (r := some 228) 28 rfl rfl) ?_
  refine VW.iload_n (pc' := 5) d_Model_wantsDelete_4 rfl rfl ?_
  refine VW.ild (pc' := 6) d_Model_wantsDelete_5 rfl (hM.k rfl) (by omega) (by omega) (by first | assumption | (simp [up2] <;> rfl) | rfl) ?_
  refine VW.istore_n (pc' := 7) d_Model_wantsDelete_6 rfl rfl ?_
  refine VW.aload_n (pc' := 8) d_Model_wantsDelete_7 rfl rfl ?_
  refine VW.gP (ci := 11) (T := T11) (N := 94) (k := 23) (k' := 23) (pc' := 11) d_Model_wantsDelete_8 rfl lk_Model_67 in11 rfl rfl rfl rfl (hM.k rfl) (hM.p (r := some 223) 23 rfl rfl) ?_
  refine VW.iload_n (pc' := 12) d_Model_wantsDelete_11 rfl rfl ?_
  refine VW.ild (pc' := 13) d_Model_wantsDelete_12 rfl (hM.k rfl) (by omega) (by omega) (by first | assumption | (simp [up2] <;> rfl) | rfl) ?_
  refine VW.istore_n (pc' := 14) d_Model_wantsDelete_13 rfl rfl ?_
  refine VW.aload_n (pc' := 15) d_Model_wantsDelete_14 rfl rfl ?_
  refine VW.iload_n (pc' := 16) d_Model_wantsDelete_15 rfl rfl ?_
  refine VW.iload_n (pc' := 17) d_Model_wantsDelete_16 rfl rfl ?_
  refine VW.aload_n (pc' := 18) d_Model_wantsDelete_17 rfl rfl ?_
  refine VW.gP (ci := 11) (T := T11) (N := 94) (k := 29) (k' := 29) (pc' := 21) d_Model_wantsDelete_18 rfl lk_Model_86 in11 rfl rfl rfl rfl (hM.k rfl) (hM.p (r := some 229) 29 rfl rfl) ?_
  refine VW.iload_n (pc' := 22) d_Model_wantsDelete_21 rfl rfl ?_
  refine VW.ild (pc' := 23) d_Model_wantsDelete_22 rfl (hM.k rfl) (by omega) (by omega) (by first | assumption | (simp [up2] <;> rfl) | rfl) ?_
  refine VW.cV (ci := 11) (T := T11) (N := 94) (pc' := 26) d_Model_wantsDelete_23 rfl mv_Model_readsKey lk_Model_308 rfl (hM.k rfl) rfl rfl rfl (Nat.le_refl _) (Nat.le_refl _) (sp_Model_readsKey hM hb hi ht (by omega)) rfl rfl ?_
  refine VW.nrm ?_
  exact pre _ rfl
end
