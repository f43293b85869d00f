/-! what a try changes -/
section
variable {S : IT} {i n N : Nat}
/-- the places that a try may change -/
def tyX (o : Nat) (y : Int) : Prop := o = 214 ∨ o = 215 ∨ o = 221 ∨ o = 222 ∨ o = 225 ∨ o = 226 ∨ (233 ≤ o ∧ o ≤ 236) ∨ (239 ≤ o ∧ o ≤ 243) ∨ (246 ≤ o ∧ o ≤ 249) ∨ (o = 100 ∧ (y = 41 ∨ y = 44))
theorem rk_233 {j t key x : Int} (h : x ≠ j) : mReadsKey S j t key 233 x = S 233 x := by
  by_cases e : mRead S j t key
  · rw [mReadsKey_1 e]
  · rw [mReadsKey_0 e, up2_k _ _ _ _ h, up2_o _ _ _ _ (by decide), up2_o _ _ _ _ (by decide)]
theorem rr_233 {j t c v x : Int} (h : x ≠ j) : mReadsRef S j t c v 233 x = S 233 x := by
  by_cases e : S 206 (4 * t + c) = -1 ∨ v = -2147483648
  · rw [mReadsRef_1 e]
  · rw [mReadsRef_0 e, rk_233 h]
theorem ins_233 {j t x : Int} (h : x ≠ j) : ∀ m : Nat, mInsS S j t m 233 x = S 233 x
  | 0 => by
    by_cases e : S 232 (4 * j) = -2147483648
    · rw [mInsS_1 e]
    · rw [mInsS_0 e, rk_233 h]
  | m + 1 => (rr_233 h).trans (ins_233 h m)
theorem rs_236 {j t x : Int} (h : ¬ (6 * j ≤ x ∧ x < 6 * j + 6)) : mReadsRefs S j t 24 236 x = S 236 x := by
  unfold mReadsRefs
  refine if_neg (fun z => ?_)
  obtain ⟨-, q, q0, q1, -, e⟩ := z
  have : q.tdiv 4 = q / 4 := Int.tdiv_eq_ediv_of_nonneg q0
  omega
theorem wd_236 {j s x : Int} (h : ¬ (6 * j ≤ x ∧ x < 6 * j + 6)) : ∀ m : Nat, mWd j s m S 236 x = S 236 x
  | 0 => rfl
  | m + 1 => by
    have ih := wd_236 (s := s) h m
    have st : mWd1 j s m (mWd j s m S) 236 x = mWd j s m S 236 x := by
      by_cases a : mRowIn (mWd j s m S) s m
      · by_cases b : mWd j s m S 239 m = 0
        · by_cases c : mRefers (mWd j s m S) s ((m : Int).tdiv 64) ((m : Int).tmod 64) 2
          · rw [mWd1_b a b c, mwants_fr 236 x (by decide) (by decide) (Or.inl (by decide)), up2_o _ _ _ _ (by decide)]
          · rw [mWd1_n a b c, up2_o _ _ _ _ (by decide)]
        · rw [mWd1_g a b, mwants_fr 236 x (by decide) (by decide) (Or.inl (by decide)), rs_236 h]
      · rw [mWd1_o a]
    exact st.trans ih
theorem del_fr {j s t key : Int} (o : Nat) (y : Int) (h1 : ¬ (239 ≤ o ∧ o ≤ 243)) (h2 : o ≠ 236) (h3 : o ≠ 100 ∨ y ≠ 41) : mDelI S j s t key o y = S o y := mDelI_fr o y (by omega) (fun z => by unfold wdX at z; omega)
theorem del_236 {j s t key x : Int} (h : ¬ (6 * j ≤ x ∧ x < 6 * j + 6)) : mDelI S j s t key 236 x = S 236 x := by
  by_cases e : mDelF S j s t key
  · rw [mDelI_1 e]
    unfold mWdE
    rw [mSortN_fr _ 236 x (by decide) (by decide), wd_236 h, mDelX_fr 236 x (by decide) (by decide)]
  · rw [mDelI_0 e]
theorem want_fr {j : Int} (o : Nat) (y : Int) (h1 : ¬ (233 ≤ o ∧ o ≤ 236)) (h2 : ¬ (239 ≤ o ∧ o ≤ 243)) (h3 : o ≠ 100 ∨ y ≠ 41) : mWantI (up2 S 100 41 0) j o y = S o y := by
  have e0 : up2 S 100 41 0 o y = S o y := if_neg (fun z => h3.elim (fun q => q z.1) (fun q => q z.2))
  by_cases k0 : up2 S 100 41 0 227 j = 0
  · rw [(mWant_i k0).1, mwants_fr o y (by omega) (by omega) h3, mInsS_fr _ o y (by omega) (by omega) (by omega), e0]
  · by_cases k1 : up2 S 100 41 0 227 j = 1
    · rw [(mWant_u k0 k1).1, mwants_fr o y (by omega) (by omega) h3, mUpdS_fr o y (by omega) (by omega) (by omega), e0]
    · rw [(mWant_d k0 k1).1, del_fr o y h2 (by omega) h3, mReadsKey_fr o y (by omega) (by omega) (by omega), e0]
theorem want_233 {j x : Int} (h : x ≠ j) : mWantI (up2 S 100 41 0) j 233 x = S 233 x := by
  have e0 : up2 S 100 41 0 233 x = S 233 x := up2_o _ _ _ _ (by decide)
  by_cases k0 : up2 S 100 41 0 227 j = 0
  · rw [(mWant_i k0).1, mwants_fr 233 x (by decide) (by decide) (Or.inl (by decide)), ins_233 h, e0]
  · by_cases k1 : up2 S 100 41 0 227 j = 1
    · rw [(mWant_u k0 k1).1, mwants_fr 233 x (by decide) (by decide) (Or.inl (by decide))]
      unfold mUpdS
      rw [rr_233 h, rk_233 h, e0]
    · rw [(mWant_d k0 k1).1, del_fr 233 x (by decide) (by decide) (Or.inl (by decide)), rk_233 h, e0]
theorem want_236 {j x : Int} (h : ¬ (6 * j ≤ x ∧ x < 6 * j + 6)) : mWantI (up2 S 100 41 0) j 236 x = S 236 x := by
  have e0 : up2 S 100 41 0 236 x = S 236 x := up2_o _ _ _ _ (by decide)
  by_cases k0 : up2 S 100 41 0 227 j = 0
  · rw [(mWant_i k0).1, mwants_fr 236 x (by decide) (by decide) (Or.inl (by decide)), mInsS_fr _ 236 x (by decide) (by decide) (by decide), e0]
  · by_cases k1 : up2 S 100 41 0 227 j = 1
    · rw [(mWant_u k0 k1).1, mwants_fr 236 x (by decide) (by decide) (Or.inl (by decide)), mUpdS_fr 236 x (by decide) (by decide) (by decide), e0]
    · rw [(mWant_d k0 k1).1, del_236 h, mReadsKey_fr 236 x (by decide) (by decide) (by decide), e0]
/-- what a try makes of what was wanted: the records, and what else -/
def TyW (W T : IT) (i : Nat) (N : Nat) : Prop := (∀ o y, o ≠ 214 → o ≠ 215 → o ≠ 221 → o ≠ 222 → o ≠ 225 → o ≠ 226 → (o < 246 ∨ 249 < o) → (o ≠ 100 ∨ y ≠ 44) → T o y = W o y) ∧ (∀ y : Int, y ≠ i → T 221 y = W 221 y ∧ T 225 y = W 225 y) ∧ (T 225 i = W 225 i ∨ T 225 i = -1 ∨ (T 225 i = mOth W i (W 100 41).toNat ∧ mOth W i (W 100 41).toNat ≠ -1)) ∧
  ∃ L : List Rc, T 100 44 = ((N + L.length : Nat) : Int) ∧ (∀ r : Int, ¬ ((N : Int) ≤ r ∧ r < N + L.length) → T 246 r = W 246 r ∧ T 247 r = W 247 r ∧ T 248 r = W 248 r ∧ T 249 r = W 249 r) ∧ (∀ (j : Nat) x, L[j]? = some x → T 246 ((N + j : Nat) : Int) = x.1 ∧ T 247 ((N + j : Nat) : Int) = x.2.1) ∧ ((T 221 i < 3 ∧ ∀ x, x ∈ L → x.1 = 0 ∧ x.2.1 = i ∧ T 221 i = W 221 i) ∨ (T 221 i = 3 ∧ L = abM W i N))
theorem ab_tyw {W : IT} (h44 : W 100 44 = N) : TyW W (mAborts W i) i N := by
  obtain ⟨T, hX, eA, -⟩ := mAborts_X (S := W) (i := (i : Int)) h44
  rw [eA]
  refine ⟨fun o y a b c d e f g k => (mends_o o y c e f).trans (hX.1 o y g k), fun y hy => ⟨?_, ?_⟩, Or.inr (Or.inl ?_), abM W i N, ?_, fun r hr => ?_, fun j x hx => ?_, Or.inr ⟨?_, rfl⟩⟩
  · unfold mends
    rw [up2_o _ _ _ _ (by decide), up2_o _ _ _ _ (by decide), up2_k _ _ _ _ hy]
    exact hX.1 221 y (Or.inl (by decide)) (Or.inl (by decide))
  · unfold mends
    rw [up2_o _ _ _ _ (by decide), up2_k _ _ _ _ hy, up2_o _ _ _ _ (by decide)]
    exact hX.1 225 y (Or.inl (by decide)) (Or.inl (by decide))
  · unfold mends
    rw [up2_o _ _ _ _ (by decide), up2_eq]
  · rw [mends_o 100 44 (by decide) (by decide) (by decide)]; exact hX.2.1
  · rw [mends_o 246 r (by decide) (by decide) (by decide), mends_o 247 r (by decide) (by decide) (by decide), mends_o 248 r (by decide) (by decide) (by decide), mends_o 249 r (by decide) (by decide) (by decide)]
    exact hX.2.2.1 r hr
  · rw [mends_o 246 _ (by decide) (by decide) (by decide), mends_o 247 _ (by decide) (by decide) (by decide)]
    have := hX.2.2.2 j x hx
    exact ⟨this.1, this.2.1⟩
  · unfold mends
    rw [up2_o _ _ _ _ (by decide), up2_o _ _ _ _ (by decide), up2_eq]
theorem try_tyw {W : IT} (h44 : W 100 44 = N) (h21 : W 221 i < 3) : TyW W (mTryI W i) i N := by
  have ab : TyW W (mAborts W i) i N := ab_tyw h44
  by_cases c1 : mOth W i (W 100 41).toNat = -1
  · by_cases c2 : mLate W i
    · rw [(mTry_late c1 c2).1]; exact ab
    · rw [(mTry_done c1 c2).1]
      unfold mDoes
      have hX := mLog_X (S := W) (i := (i : Int)) h44 (W 100 41).toNat
      have d21 : ∀ y : Int, mDoesS (mLog W i (W 100 41).toNat) i (W 223 i) (W 228 i) 221 y = W 221 y := fun y => (mDoesS_fr 221 y (by decide) (by decide)).trans (hX.1 221 y (Or.inl (by decide)) (Or.inl (by decide)))
      have d25 : ∀ y : Int, mDoesS (mLog W i (W 100 41).toNat) i (W 223 i) (W 228 i) 225 y = W 225 y := fun y => (mDoesS_fr 225 y (by decide) (by decide)).trans (hX.1 225 y (Or.inl (by decide)) (Or.inl (by decide)))
      refine ⟨fun o y a b c d e f g k => (mDoesS_fr o y a b).trans (hX.1 o y g k), fun y _ => ⟨d21 y, d25 y⟩, Or.inl (d25 i), wrM i (wtL W (W 100 41).toNat), ?_, fun r hr => ?_, fun j x hx => ?_, Or.inl ⟨by rw [d21]; exact h21, fun x hx => ?_⟩⟩
      · rw [mDoesS_fr 100 44 (by decide) (by decide)]; exact hX.2.1
      · rw [mDoesS_fr 246 r (by decide) (by decide), mDoesS_fr 247 r (by decide) (by decide), mDoesS_fr 248 r (by decide) (by decide), mDoesS_fr 249 r (by decide) (by decide)]
        exact hX.2.2.1 r hr
      · rw [mDoesS_fr 246 _ (by decide) (by decide), mDoesS_fr 247 _ (by decide) (by decide)]
        have := hX.2.2.2 j x hx
        exact ⟨this.1, this.2.1⟩
      · have := wrM_mem hx
        exact ⟨this.1, this.2.1, d21 i⟩
  · by_cases c2 : mCh W i 60 (mOth W i (W 100 41).toNat) = i
    · rw [(mTry_vict c1 c2).1]; exact ab
    · rw [(mTry_wait c1 c2).1]
      obtain ⟨v, hv⟩ : ∃ v, mOth W i (W 100 41).toNat = v := ⟨_, rfl⟩
      rw [hv] at c1
      refine ⟨fun o y a b c d e f g k => by rw [up2_o _ _ _ _ e, up2_o _ _ _ _ c], fun y hy => ⟨by rw [up2_o _ _ _ _ (by decide), up2_k _ _ _ _ hy], by rw [up2_k _ _ _ _ hy, up2_o _ _ _ _ (by decide)]⟩, Or.inr (Or.inr ⟨by rw [up2_eq], by rw [hv]; exact c1⟩), [], ?_, fun r _ => ⟨rfl, rfl, rfl, rfl⟩, fun j x hx => by simp at hx, Or.inl ⟨?_, fun x hx => by cases hx⟩⟩
      · rw [up2_o _ _ _ _ (by decide), up2_o _ _ _ _ (by decide), h44]; rfl
      · rw [up2_o _ _ _ _ (by decide), up2_eq]; decide
end
