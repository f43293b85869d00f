section
variable {K : KT} {P : PT} {J I : IT}
theorem mWdE_fr {i s : Int} {S : IT} (o : Nat) (k : Int) (h : ¬ wdX o k) : mWdE i s S o k = S o k :=
  (mSortN_fr _ o k (fun z => h (Or.inr (Or.inr (Or.inl z)))) (fun z => h (Or.inr (Or.inr (Or.inr (Or.inl z)))))).trans (mWd_fr 384 o k h)
theorem mWdE_236 {i s : Int} {S : IT} (k : Int) : mWdE i s S 236 k = 1 ∨ mWdE i s S 236 k = S 236 k := by
  unfold mWdE
  rw [mSortN_fr _ 236 k (by decide) (by decide)]
  exact mWd_236 384 k
theorem mWdE_41 {i s : Int} {S : IT} : S 100 41 ≤ mWdE i s S 100 41 ∧ mWdE i s S 100 41 ≤ S 100 41 + 384 := by
  unfold mWdE
  rw [mSortN_fr _ 100 41 (by decide) (by decide)]
  exact mWd_41 384
theorem mDelI_MB {S : IT} {i s t key : Int} (h : MB S) : MB (mDelI S i s t key) := by
  by_cases z : mDelF S i s t key
  · rw [mDelI_1 z]; exact (h.f2 mDelX_fr).fd mWdE_fr mWdE_236
  · rw [mDelI_0 z]; exact h
theorem mDelI_fr {S : IT} {i s t key : Int} (o : Nat) (k : Int) (h1 : o ≠ 239) (h : ¬ wdX o k) : mDelI S i s t key o k = S o k := by
  by_cases z : mDelF S i s t key
  · rw [mDelI_1 z, mWdE_fr o k h]; exact mDelX_fr o k h1 (fun y => h (Or.inr (Or.inl y)))
  · rw [mDelI_0 z]
/-- the state once a write has told what it wants -/
noncomputable def mWantI (I : IT) (i : Int) : IT :=
  if I 227 i = 0 then mwants (mInsS I i (I 228 i) (I 201 (I 228 i) - 1).toNat) (I 228 i) (I 232 (4 * i))
  else if I 227 i = 1 then mwants (mUpdS I i) (I 228 i) (I 229 i)
  else mDelI (mReadsKey I i (I 228 i) (I 229 i)) i (I 223 i) (I 228 i) (I 229 i)
def mWantQ (I : IT) (i : Int) : Prop :=
  (I 227 i = 0 ∧ mInsOk (mInsS I i (I 228 i) (I 201 (I 228 i) - 1).toNat) i (I 228 i) (I 232 (4 * i)))
  ∨ (I 227 i = 1 ∧ mUpdOk (mUpdS I i) (mwants (mUpdS I i) (I 228 i) (I 229 i)) i)
  ∨ (I 227 i ≠ 0 ∧ I 227 i ≠ 1 ∧ mDelQ (mReadsKey I i (I 228 i) (I 229 i)) i (I 223 i) (I 228 i) (I 229 i))
theorem mWant_i {i : Int} (h : I 227 i = 0) : mWantI I i = mwants (mInsS I i (I 228 i) (I 201 (I 228 i) - 1).toNat) (I 228 i) (I 232 (4 * i)) ∧ bI (mWantQ I i) = bI (mInsOk (mInsS I i (I 228 i) (I 201 (I 228 i) - 1).toNat) i (I 228 i) (I 232 (4 * i))) :=
  ⟨if_pos h, bIc ⟨fun z => by rcases z with z | z | z; exact z.2; exact absurd z.1 (by omega); exact absurd h z.1, fun z => Or.inl ⟨h, z⟩⟩⟩
theorem mWant_u {i : Int} (h : I 227 i ≠ 0) (h2 : I 227 i = 1) : mWantI I i = mwants (mUpdS I i) (I 228 i) (I 229 i) ∧ bI (mWantQ I i) = bI (mUpdOk (mUpdS I i) (mwants (mUpdS I i) (I 228 i) (I 229 i)) i) :=
  ⟨(if_neg h).trans (if_pos h2), bIc ⟨fun z => by rcases z with z | z | z; exact absurd z.1 h; exact z.2; exact absurd h2 z.2.1, fun z => Or.inr (Or.inl ⟨h2, z⟩)⟩⟩
theorem mWant_d {i : Int} (h : I 227 i ≠ 0) (h2 : I 227 i ≠ 1) : mWantI I i = mDelI (mReadsKey I i (I 228 i) (I 229 i)) i (I 223 i) (I 228 i) (I 229 i) ∧ bI (mWantQ I i) = bI (mDelQ (mReadsKey I i (I 228 i) (I 229 i)) i (I 223 i) (I 228 i) (I 229 i)) :=
  ⟨(if_neg h).trans (if_neg h2), bIc ⟨fun z => by rcases z with z | z | z; exact absurd z.1 h; exact absurd z.1 h2; exact z.2.2, fun z => Or.inr (Or.inr ⟨h, h2, z⟩)⟩⟩
theorem mWantI_MB {i : Int} (h : MB I) : MB (mWantI I i) := by
  by_cases a : I 227 i = 0
  · rw [(mWant_i a).1]; exact (h.fr (mInsS_fr _)).fw
  · by_cases b : I 227 i = 1
    · rw [(mWant_u a b).1]; exact (h.fr mUpdS_fr).fw
    · rw [(mWant_d a b).1]; exact mDelI_MB (h.fr mReadsKey_fr)
theorem mWantI_fr {i : Int} (o : Nat) (k : Int) (h1 : o < 233 ∨ 243 < o) (h2 : o ≠ 100 ∨ k ≠ 41) : mWantI I i o k = I o k := by
  by_cases a : I 227 i = 0
  · rw [(mWant_i a).1, mwants_fr o k (by omega) (by omega) h2]; exact mInsS_fr _ o k (by omega) (by omega) (by omega)
  · by_cases b : I 227 i = 1
    · rw [(mWant_u a b).1, mwants_fr o k (by omega) (by omega) h2]; exact mUpdS_fr o k (by omega) (by omega) (by omega)
    · rw [(mWant_d a b).1, mDelI_fr o k (by omega) (by unfold wdX; omega)]; exact mReadsKey_fr o k (by omega) (by omega) (by omega)
noncomputable def mTriesI (I : IT) (i : Int) : IT := if bI (mWantQ (up2 I 100 41 0) i) = 0 then mWantI (up2 I 100 41 0) i else mTryI (mWantI (up2 I 100 41 0) i) i
noncomputable def mTriesV (I : IT) (i : Int) : Int := if bI (mWantQ (up2 I 100 41 0) i) = 0 then 2 else mTryV (mWantI (up2 I 100 41 0) i) i
theorem mTries_0 {i : Int} (h : bI (mWantQ (up2 I 100 41 0) i) = 0) : mTriesI I i = mWantI (up2 I 100 41 0) i ∧ mTriesV I i = 2 := ⟨if_pos h, if_pos h⟩
theorem mTries_1 {i : Int} (h : bI (mWantQ (up2 I 100 41 0) i) ≠ 0) : mTriesI I i = mTryI (mWantI (up2 I 100 41 0) i) i ∧ mTriesV I i = mTryV (mWantI (up2 I 100 41 0) i) i := ⟨if_neg h, if_neg h⟩
theorem MB.u {S : IT} {o : Nat} {k v : Int} (h : MB S) (ho : o ≠ 201 ∧ o ≠ 202 ∧ o ≠ 206 ∧ o ≠ 211 ∧ o ≠ 214 ∧ o ≠ 223 ∧ o ≠ 236) (hk : o ≠ 100 ∨ (k ≠ 0 ∧ k ≠ 8 ∧ k ≠ 19)) : MB (up2 S o k v) :=
  h.of (if_neg (by omega)) (if_neg (by omega)) (if_neg (by omega)) (fun q => if_neg (by omega)) (fun q => if_neg (by omega)) (fun q => if_neg (by omega)) (fun q => if_neg (by omega)) (fun q => by rw [show up2 S o k v 214 q = S 214 q from if_neg (by omega)]; exact h.row q) (fun q => if_neg (by omega)) (fun q => by rw [show up2 S o k v 236 q = S 236 q from if_neg (by omega)]; exact h.who q)

def TryP (I : IT) (i : Int) : Prop := (MB I) ∧ (0 ≤ i ∧ i < 60) ∧ (0 ≤ I 228 i ∧ I 228 i < 6) ∧ (I 227 i = 1 → 0 ≤ I 230 i ∧ I 230 i < 4) ∧ (0 ≤ I 233 i ∧ I 233 i ≤ 2040) ∧ (mWantQ (up2 I 100 41 0) i → TrOK (mWantI (up2 I 100 41 0) i) i)
theorem TryP.mb {I : IT} {i : Int} (h : TryP I i) : MB I := h.1
theorem TryP.hi {I : IT} {i : Int} (h : TryP I i) : 0 ≤ i ∧ i < 60 := h.2.1
theorem TryP.ht {I : IT} {i : Int} (h : TryP I i) : 0 ≤ I 228 i ∧ I 228 i < 6 := h.2.2.1
theorem TryP.hc {I : IT} {i : Int} (h : TryP I i) : I 227 i = 1 → 0 ≤ I 230 i ∧ I 230 i < 4 := h.2.2.2.1
theorem TryP.hn {I : IT} {i : Int} (h : TryP I i) : 0 ≤ I 233 i ∧ I 233 i ≤ 2040 := h.2.2.2.2.1
theorem TryP.tr {I : IT} {i : Int} (h : TryP I i) : mWantQ (up2 I 100 41 0) i → TrOK (mWantI (up2 I 100 41 0) i) i := h.2.2.2.2.2

theorem sp_Model_tries {i : Int} (hM : MW K P) (hp : TryP I i) : Sp m_Model_tries false (rmv 5 128) (ex K P J (mTriesI I i) (.inl (some (vI (mTriesV I i))))) K P J I [vR (some 100), vI i] := by
  refine Sp.ofV (by decide) (Or.inr rfl) rfl ?_
  obtain ⟨mb, hi, ht, hc, hn, tr⟩ := hp
  have rest : ∀ z W, z = bI (mWantQ (up2 I 100 41 0) i) → W = mWantI (up2 I 100 41 0) i → VW m_Model_tries false (rmv 5 128) (ex K P J (mTriesI I i) (.inl (some (vI (mTriesV I i))))) K P J W 0 0 45 [(0, vR (some 100)), (1, vI i)] [vI z] := by
    intro z W hz hW
    have r := fun (h : bI (mWantQ (up2 I 100 41 0) i) ≠ 0) => tr_rest (W := W) (z := z) (i := i) (J := J) hM (by rw [hW]; exact mWantI_MB (mb.u (by decide) (by decide))) hi (by rw [hW]; exact tr (Classical.byContradiction (fun y => h (bI0 y))))
    rw [hW, hz] at r ⊢
    clear hz hW tr ht hc hn mb
    refine VW.istore_n (pc' := 46) d_Model_tries_45 rfl rfl ?_
    refine VW.iload_n (pc' := 47) d_Model_tries_46 rfl rfl ?_
    refine VW.if_ne (tgt := 52) (pc' := 50) d_Model_tries_47 rfl rfl (fun c47 => ?_) (fun c47 => ?_)
    · try have e47 := bIn c47
      refine VW.nrm ?_
      have r1 := r c47
      rw [← (mTries_1 c47).1, ← (mTries_1 c47).2] at r1
      exact r1
    · try have e47 := bIe c47
      refine VW.iconst (pc' := 51) d_Model_tries_50 rfl (by decide) ?_
      exact VW.iret d_Model_tries_51 rfl rfl (Nat.zero_le _) (Nat.zero_le _) (by first | exact ex_pair (mTries_0 c47))
  have pre : ∀ S0, S0 = up2 I 100 41 0 → VW m_Model_tries false (rmv 5 128) (ex K P J (mTriesI I i) (.inl (some (vI (mTriesV I i))))) K P J S0 0 0 5 [(0, vR (some 100)), (1, vI i)] [] := by
    intro S0 e0
    have mb0 : MB S0 := by rw [e0]; exact mb.u (by decide) (by decide)
    have u : ∀ (o : Nat) (k : Int), o ≠ 100 → S0 o k = I o k := fun o k h => by rw [e0]; exact if_neg (fun z => h z.1)
    have u41 : S0 100 41 = 0 := by rw [e0]; exact up2_eq _ _ _ _
    have ht' : 0 ≤ S0 228 i ∧ S0 228 i < 6 := by rw [u 228 i (by decide)]; exact ht
    have hc' : S0 227 i = 1 → 0 ≤ S0 230 i ∧ S0 230 i < 4 := by rw [u 230 i (by decide), u 227 i (by decide)]; exact hc
    have hn' : 0 ≤ S0 233 i ∧ S0 233 i ≤ 2040 := by rw [u 233 i (by decide)]; exact hn
    rw [← e0] at rest
    clear e0 u tr mb ht hc hn
    refine VW.aload_n (pc' := 6) d_Model_tries_5 rfl rfl ?_
    refine VW.gP (ci := 11) (T := T11) (N := 94) (k := 27) (k' := 27) (pc' := 9) d_Model_tries_6 rfl lk_Model_80 in11 rfl rfl rfl rfl (hM.k rfl) (hM.p (r := some 227) 27 rfl rfl) ?_
    refine VW.iload_n (pc' := 10) d_Model_tries_9 rfl rfl ?_
    refine VW.ild (pc' := 11) d_Model_tries_10 rfl (hM.k rfl) (by omega) (by omega) (by first | assumption | (simp [up2] <;> rfl) | rfl) ?_
    refine VW.if_ne (tgt := 22) (pc' := 14) d_Model_tries_11 rfl rfl (fun c11 => ?_) (fun c11 => ?_)
    · try have e11 := bIn c11
      refine VW.aload_n (pc' := 23) d_Model_tries_22 rfl rfl ?_
      refine VW.gP (ci := 11) (T := T11) (N := 94) (k := 27) (k' := 27) (pc' := 26) d_Model_tries_23 rfl lk_Model_80 in11 rfl rfl rfl rfl (hM.k rfl) (hM.p (r := some 227) 27 rfl rfl) ?_
      refine VW.iload_n (pc' := 27) d_Model_tries_26 rfl rfl ?_
      refine VW.ild (pc' := 28) d_Model_tries_27 rfl (hM.k rfl) (by omega) (by omega) (by first | assumption | (simp [up2] <;> rfl) | rfl) ?_
      refine VW.iconst (pc' := 29) d_Model_tries_28 rfl (by decide) ?_
      refine VW.icmp_ne (tgt := 40) (pc' := 32) d_Model_tries_29 rfl rfl (fun c29 => ?_) (fun c29 => ?_)
      · refine VW.aload_n (pc' := 41) d_Model_tries_40 rfl rfl ?_
        refine VW.iload_n (pc' := 42) d_Model_tries_41 rfl rfl ?_
        refine VW.cV (ci := 11) (T := T11) (N := 94) (pc' := 45) d_Model_tries_42 rfl mv_Model_wantsDelete lk_Model_353 rfl (hM.k rfl) rfl rfl rfl (Nat.le_refl _) (Nat.le_refl _) (sp_Model_wantsDelete hM mb0 hi ht' hn' u41) rfl rfl ?_
        refine VW.nrm ?_
        first | exact rest _ _ (mWant_i c11).2.symm (mWant_i c11).1.symm | exact rest _ _ (mWant_u c11 c29).2.symm (mWant_u c11 c29).1.symm | exact rest _ _ (mWant_d c11 c29).2.symm (mWant_d c11 c29).1.symm
      · refine VW.aload_n (pc' := 33) d_Model_tries_32 rfl rfl ?_
        refine VW.iload_n (pc' := 34) d_Model_tries_33 rfl rfl ?_
        refine VW.cV (ci := 11) (T := T11) (N := 94) (pc' := 37) d_Model_tries_34 rfl mv_Model_wantsUpdate lk_Model_350 rfl (hM.k rfl) rfl rfl rfl (Nat.le_refl _) (Nat.le_refl _) (sp_Model_wantsUpdate hM mb0 hi ht' (hc' c29) hn' (by omega)) rfl rfl ?_
        refine VW.goto (pc' := 45) d_Model_tries_37 rfl ?_
        refine VW.nrm ?_
        first | exact rest _ _ (mWant_i c11).2.symm (mWant_i c11).1.symm | exact rest _ _ (mWant_u c11 c29).2.symm (mWant_u c11 c29).1.symm | exact rest _ _ (mWant_d c11 c29).2.symm (mWant_d c11 c29).1.symm
    · try have e11 := bIe c11
      refine VW.aload_n (pc' := 15) d_Model_tries_14 rfl rfl ?_
      refine VW.iload_n (pc' := 16) d_Model_tries_15 rfl rfl ?_
      refine VW.cV (ci := 11) (T := T11) (N := 94) (pc' := 19) d_Model_tries_16 rfl mv_Model_wantsInsert lk_Model_347 rfl (hM.k rfl) rfl rfl rfl (Nat.le_refl _) (Nat.le_refl _) (sp_Model_wantsInsert hM mb0 hi ht' hn' (by omega)) rfl rfl ?_
      refine VW.goto (pc' := 45) d_Model_tries_19 rfl ?_
      refine VW.nrm ?_
      first | exact rest _ _ (mWant_i c11).2.symm (mWant_i c11).1.symm | exact rest _ _ (mWant_u c11 c29).2.symm (mWant_u c11 c29).1.symm | exact rest _ _ (mWant_d c11 c29).2.symm (mWant_d c11 c29).1.symm
  refine VW.aload_n (pc' := 1) d_Model_tries_0 rfl rfl ?_
  refine VW.iconst (pc' := 2) d_Model_tries_1 rfl (by decide) ?_
  refine VW.pI (ci := 11) (T := T11) (N := 94) (k := 41) (k' := 41) (ty := ty11) (pc' := 5) d_Model_tries_2 rfl lk_Model_312 in11 tk11 nm11 rfl rfl rfl rfl rfl rfl (hM.k rfl) ?_
  refine VW.nrm ?_
  exact pre _ rfl
/-- an attempt of i anew -/
def mGo (S : IT) (i : Int) : IT := up2 (up2 S 221 i 0) 225 i (-1)
noncomputable def mStep (S : IT) (i : Int) : IT := up2 (mTriesI (mGo S i) i) 222 i (mTriesV (mGo S i) i)
noncomputable def mSettle : Nat → IT → IT
  | 0, S => S
  | n + 1, S => if mNext S = -1 then S else mSettle n (mStep S (mNext S))
theorem mSettle_end {n : Nat} {S : IT} (h : mNext S = -1) : mSettle n S = S := by
  cases n with
  | zero => rfl
  | succ n => exact if_pos h
theorem mSettle_go {n : Nat} {S : IT} (h : mNext S ≠ -1) : mSettle (n + 1) S = mSettle n (mStep S (mNext S)) := if_neg h
def SetW (S : IT) : Prop := MB S ∧ ∀ j, 0 ≤ j → j < S 100 19 → S 221 j = 1 → 0 ≤ S 225 j ∧ S 225 j < 60
/-- settling comes to an end within n attempts, and each of them can be made -/
def SetOK : Nat → IT → Prop
  | 0, S => SetW S ∧ mNext S = -1
  | n + 1, S => SetW S ∧ (mNext S ≠ -1 → TryP (mGo S (mNext S)) (mNext S) ∧ SetOK n (mStep S (mNext S)))
theorem SetOK.w {n : Nat} {S : IT} (h : SetOK n S) : SetW S := by
  cases n with
  | zero => exact h.1
  | succ n => exact h.1
theorem sp_Model_settles {n : Nat} (hM : MW K P) (hp : SetOK n I) : Sp m_Model_settles false (rmv 6 153) (ex K P J (mSettle n I) (.inl none)) K P J I [vR (some 100)] := by
  refine Sp.ofV (by decide) (Or.inr rfl) rfl ?_
  have loop : ∀ (m : Nat) (S : IT) (x : Int), x = mNext S → SetOK m S → mSettle m S = mSettle n I → VW m_Model_settles false (rmv 6 153) (ex K P J (mSettle n I) (.inl none)) K P J S 0 0 5 [(0, vR (some 100)), (1, vI x)] [] := by
    intro m
    induction m with
    | zero =>
      intro S x hx hs he
      have e : S = mSettle n I := he
      have hx1 := hx.trans hs.2
      refine VW.iload_n (pc' := 6) d_Model_settles_5 rfl rfl ?_
      refine VW.iconst (pc' := 7) d_Model_settles_6 rfl (by decide) ?_
      refine VW.icmp_eq (tgt := 43) (pc' := 10) d_Model_settles_7 rfl rfl (fun c7 => ?_) (fun c7 => ?_)
      · exact VW.vret d_Model_settles_43 rfl (Nat.zero_le _) (Nat.zero_le _) (by rw [e]; exact ex_rf)
      · exfalso; omega
    | succ m ih =>
      intro S x hx hs he
      have go : x ≠ -1 → TryP (mGo S x) x ∧ SetOK m (mStep S x) := fun y => by rw [hx]; exact hs.2 (fun z => y (hx.trans z))
      have fin : x = -1 → S = mSettle n I := fun y => (mSettle_end (n := m + 1) (hx.symm.trans y)).symm.trans he
      have nx : x ≠ -1 → mSettle m (mStep S x) = mSettle n I := fun y => by rw [hx]; exact (mSettle_go (fun z => y (hx.trans z))).symm.trans he
      have n0 : x = -1 ∨ (0 ≤ x ∧ x < 60) := by by_cases y : x = -1; exact Or.inl y; exact Or.inr (go y).1.hi
      refine VW.iload_n (pc' := 6) d_Model_settles_5 rfl rfl ?_
      refine VW.iconst (pc' := 7) d_Model_settles_6 rfl (by decide) ?_
      refine VW.icmp_eq (tgt := 43) (pc' := 10) d_Model_settles_7 rfl rfl (fun c7 => ?_) (fun c7 => ?_)
      · exact VW.vret d_Model_settles_43 rfl (Nat.zero_le _) (Nat.zero_le _) (by rw [fin c7]; exact ex_rf)
      · refine VW.aload_n (pc' := 11) d_Model_settles_10 rfl rfl ?_
        refine VW.gP (ci := 11) (T := T11) (N := 94) (k := 21) (k' := 21) (pc' := 14) d_Model_settles_11 rfl lk_Model_61 in11 rfl rfl rfl rfl (hM.k rfl) (hM.p (r := some 221) 21 rfl rfl) ?_
        refine VW.iload_n (pc' := 15) d_Model_settles_14 rfl rfl ?_
        refine VW.iconst (pc' := 16) d_Model_settles_15 rfl (by decide) ?_
        refine VW.iast (pc' := 17) d_Model_settles_16 rfl (hM.k rfl) (by omega) (by omega) ?_
        refine VW.aload_n (pc' := 18) d_Model_settles_17 rfl rfl ?_
        refine VW.gP (ci := 11) (T := T11) (N := 94) (k := 25) (k' := 25) (pc' := 21) d_Model_settles_18 rfl lk_Model_73 in11 rfl rfl rfl rfl (hM.k rfl) (hM.p (r := some 225) 25 rfl rfl) ?_
        refine VW.iload_n (pc' := 22) d_Model_settles_21 rfl rfl ?_
        refine VW.iconst (pc' := 23) d_Model_settles_22 rfl (by decide) ?_
        refine VW.iast (pc' := 24) d_Model_settles_23 rfl (hM.k rfl) (by omega) (by omega) ?_
        refine VW.aload_n (pc' := 25) d_Model_settles_24 rfl rfl ?_
        refine VW.gP (ci := 11) (T := T11) (N := 94) (k := 22) (k' := 22) (pc' := 28) d_Model_settles_25 rfl lk_Model_64 in11 rfl rfl rfl rfl (hM.k rfl) (hM.p (r := some 222) 22 rfl rfl) ?_
        have g1 := go c7
        refine VW.iload_n (pc' := 29) d_Model_settles_28 rfl rfl ?_
        refine VW.aload_n (pc' := 30) d_Model_settles_29 rfl rfl ?_
        refine VW.iload_n (pc' := 31) d_Model_settles_30 rfl rfl ?_
        refine VW.cV (ci := 11) (T := T11) (N := 94) (pc' := 34) d_Model_settles_31 rfl mv_Model_tries lk_Model_370 rfl (hM.k rfl) rfl rfl rfl (Nat.le_refl _) (Nat.le_refl _) (sp_Model_tries hM g1.1) rfl rfl ?_
        refine VW.iast (pc' := 35) d_Model_settles_34 rfl (hM.k rfl) (by omega) (by omega) ?_
        refine VW.aload_n (pc' := 36) d_Model_settles_35 rfl rfl ?_
        refine VW.cV (ci := 11) (T := T11) (N := 94) (pc' := 39) d_Model_settles_36 rfl mv_Model_nextOf lk_Model_366 rfl (hM.k rfl) rfl rfl rfl (Nat.le_refl _) (Nat.le_refl _) (sp_Model_nextOf hM g1.2.w.1 g1.2.w.2) rfl rfl ?_
        refine VW.istore_n (pc' := 40) d_Model_settles_39 rfl rfl ?_
        refine VW.goto (pc' := 5) d_Model_settles_40 rfl ?_
        refine VW.nrm ?_
        exact ih _ _ rfl g1.2 (nx c7)
  have w := hp.w
  refine VW.aload_n (pc' := 1) d_Model_settles_0 rfl rfl ?_
  refine VW.cV (ci := 11) (T := T11) (N := 94) (pc' := 4) d_Model_settles_1 rfl mv_Model_nextOf lk_Model_366 rfl (hM.k rfl) rfl rfl rfl (Nat.le_refl _) (Nat.le_refl _) (sp_Model_nextOf hM w.1 w.2) rfl rfl ?_
  refine VW.istore_n (pc' := 5) d_Model_settles_4 rfl rfl ?_
  refine VW.nrm ?_
  exact loop n I _ rfl hp rfl
def mAct0 (I : IT) (i h t : Int) : IT := up2 (up2 I 227 i h) 228 i t
noncomputable def mAct1 (I : IT) (i h t : Int) : IT := up2 (mTriesI (mAct0 I i h t) i) 222 i (mTriesV (mAct0 I i h t) i)
theorem sp_Model_acts {n : Nat} {i h t : Int} (hM : MW K P) (hp : TryP (mAct0 I i h t) i) (hq : SetOK n (mAct1 I i h t)) : Sp m_Model_acts false (rmv 7 174) (ex K P J (mSettle n (mAct1 I i h t)) (.inl (some (vI (mTriesV (mAct0 I i h t) i))))) K P J I [vR (some 100), vI i, vI h, vI t] := by
  refine Sp.ofV (by decide) (Or.inr rfl) rfl ?_
  have hi := hp.hi
  refine VW.aload_n (pc' := 1) d_Model_acts_0 rfl rfl ?_
  refine VW.gP (ci := 11) (T := T11) (N := 94) (k := 27) (k' := 27) (pc' := 4) d_Model_acts_1 rfl lk_Model_80 in11 rfl rfl rfl rfl (hM.k rfl) (hM.p (r := some 227) 27 rfl rfl) ?_
  refine VW.iload_n (pc' := 5) d_Model_acts_4 rfl rfl ?_
  refine VW.iload_n (pc' := 6) d_Model_acts_5 rfl rfl ?_
  refine VW.iast (pc' := 7) d_Model_acts_6 rfl (hM.k rfl) (by omega) (by omega) ?_
  refine VW.aload_n (pc' := 8) d_Model_acts_7 rfl rfl ?_
  refine VW.gP (ci := 11) (T := T11) (N := 94) (k := 28) (k' := 28) (pc' := 11) d_Model_acts_8 rfl lk_Model_83 in11 rfl rfl rfl rfl (hM.k rfl) (hM.p (r := some 228) 28 rfl rfl) ?_
  refine VW.iload_n (pc' := 12) d_Model_acts_11 rfl rfl ?_
  refine VW.iload_n (pc' := 13) d_Model_acts_12 rfl rfl ?_
  refine VW.iast (pc' := 14) d_Model_acts_13 rfl (hM.k rfl) (by omega) (by omega) ?_
  refine VW.aload_n (pc' := 15) d_Model_acts_14 rfl rfl ?_
  refine VW.gP (ci := 11) (T := T11) (N := 94) (k := 22) (k' := 22) (pc' := 18) d_Model_acts_15 rfl lk_Model_64 in11 rfl rfl rfl rfl (hM.k rfl) (hM.p (r := some 222) 22 rfl rfl) ?_
  refine VW.iload_n (pc' := 19) d_Model_acts_18 rfl rfl ?_
  refine VW.aload_n (pc' := 20) d_Model_acts_19 rfl rfl ?_
  refine VW.iload_n (pc' := 21) d_Model_acts_20 rfl rfl ?_
  refine VW.cV (ci := 11) (T := T11) (N := 94) (pc' := 24) d_Model_acts_21 rfl mv_Model_tries lk_Model_370 rfl (hM.k rfl) rfl rfl rfl (Nat.le_refl _) (Nat.le_refl _) (sp_Model_tries hM hp) rfl rfl ?_
  refine VW.iast (pc' := 25) d_Model_acts_24 rfl (hM.k rfl) (by omega) (by omega) ?_
  refine VW.aload_n (pc' := 26) d_Model_acts_25 rfl rfl ?_
  refine VW.gP (ci := 11) (T := T11) (N := 94) (k := 22) (k' := 22) (pc' := 29) d_Model_acts_26 rfl lk_Model_64 in11 rfl rfl rfl rfl (hM.k rfl) (hM.p (r := some 222) 22 rfl rfl) ?_
  refine VW.iload_n (pc' := 30) d_Model_acts_29 rfl rfl ?_
  refine VW.ild (pc' := 31) d_Model_acts_30 rfl (hM.k rfl) (by omega) (by omega) (up2_eq _ _ _ _) ?_
  refine VW.istore (pc' := 33) d_Model_acts_31 rfl rfl ?_
  refine VW.aload_n (pc' := 34) d_Model_acts_33 rfl rfl ?_
  refine VW.cV (ci := 11) (T := T11) (N := 94) (pc' := 37) d_Model_acts_34 rfl mv_Model_settles lk_Model_373 rfl (hM.k rfl) rfl rfl rfl (Nat.le_refl _) (Nat.le_refl _) (sp_Model_settles hM hq) rfl rfl ?_
  refine VW.iload (pc' := 39) d_Model_acts_37 rfl rfl ?_
  exact VW.iret d_Model_acts_39 rfl rfl (Nat.zero_le _) (Nat.zero_le _) ex_rf
end
