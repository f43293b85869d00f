/-! settling comes to an end -/
section
variable {K : KT} {P : PT} {I S : IT} {n N g lq i : Nat} {lv mv : Nat → Nat} {q : Int}
theorem cntI_eq {a b : Int → Prop} (n : Nat) (h : ∀ j : Nat, j < n → (a j ↔ b j)) : cntI a n = cntI b n := by
  have h1 := cntI_le (g := a) (h := b) n (fun j hj => (h j hj).mp)
  have h2 := cntI_le (g := b) (h := a) n (fun j hj => (h j hj).mpr)
  omega
theorem cntI_upd {a b : Int → Prop} {x : Nat} : ∀ n : Nat, x < n → (∀ j : Nat, j < n → j ≠ x → (b j ↔ a j)) → cntI b n + bI (a x) = cntI a n + bI (b x) := by
  intro n
  induction n with
  | zero => intro h; omega
  | succ n ih =>
    intro hx h
    show cntI b n + bI (b n) + bI (a x) = cntI a n + bI (a n) + bI (b x)
    by_cases e : x = n
    · subst e
      rw [cntI_eq x (fun j hj => h j (by omega) (by omega))]; omega
    · have := ih (by omega) (fun j hj hji => h j (by omega) hji)
      have e2 : bI (b n) = bI (a n) := bIc (h n (by omega) (by omega))
      omega
theorem fs_iff {a b : Int → Prop} : ∀ (n : Nat) (p : Int), (∀ j, p ≤ j → j < p + n → (a j ↔ b j)) → fs a p n = fs b p n := by
  intro n
  induction n with
  | zero => intro p _; rfl
  | succ n ih =>
    intro p h
    have hp := h p (by omega) (by omega)
    by_cases c : a p
    · rw [fs_yes c, fs_yes (hp.mp c)]
    · rw [fs_no c, fs_no (fun z => c (hp.mpr z))]
      exact ih (p + 1) (fun j j0 j1 => h j (by omega) (by omega))
noncomputable def opC (S : IT) (n : Nat) : Int := cntI (fun j => S 221 j < 2) n
noncomputable def fdC (S : IT) (n : Nat) : Int := cntI (mFreed S) n
noncomputable def mM (S : IT) (n : Nat) : Int := 5 * opC S n + fdC S n
theorem mM_rg : 0 ≤ opC S n ∧ 0 ≤ fdC S n ∧ 0 ≤ mM S n := by
  have a := cntI_rg (fun j => S 221 j < 2) n
  have b := cntI_rg (mFreed S) n
  unfold mM opC fdC
  omega
/-- at most four are under way -/
theorem open4 (h : ER I S n N g lv mv q) : opC S n ≤ 4 := by
  unfold opC
  rw [cntI_filter]
  have mem : ∀ x, x ∈ (List.range n).filter (fun p : Nat => @decide (S 221 (p : Int) < 2) (Classical.propDecidable _)) → opS S n x := fun x hx => by
    obtain ⟨a, b⟩ := List.mem_filter.mp hx
    exact ⟨List.mem_range.mp a, @of_decide_eq_true _ (Classical.propDecidable _) b⟩
  have nd : (((List.range n).filter (fun p : Nat => @decide (S 221 (p : Int) < 2) (Classical.propDecidable _))).map (fun x : Nat => (S 223 x).toNat)).Nodup := by
    refine nodup_map_on (fun x hx y hy e => ?_) (List.Nodup.sublist List.filter_sublist List.nodup_range)
    have e : (S 223 x).toNat = (S 223 y).toNat := e
    have px := h.mb.pla x
    have py := h.mb.pla y
    exact h.sl.1 x y (mem x hx) (mem y hy) (by omega)
  have := nd.length_le_of_subset (l₂ := List.range 4) (fun x hx => by
    obtain ⟨k, -, e⟩ := List.mem_map.mp hx
    have p := h.mb.pla k
    have e' : (S 223 k).toNat = x := e
    exact List.mem_range.mpr (by omega))
  rw [List.length_map, List.length_range] at this
  omega
theorem mDoesS_fr {s t : Int} {i : Int} (o : Nat) (k : Int) (h1 : o ≠ 214) (h2 : o ≠ 215) : mDoesS S i s t o k = S o k := by
  by_cases a : S 227 i = 0
  · rw [mDoesS_i a]
    exact (if_neg (fun z => h2 z.1)).trans (up2_o _ _ _ _ h1)
  · by_cases b : S 227 i = 1
    · rw [mDoesS_u a b]; exact up2_o _ _ _ _ h2
    · rw [mDoesS_d a b]
      unfold mDeletes
      rw [mTk_fr2 _ _ _ h2 h1, mBl_fr _ _ _ h2]
/-- whom it waits for -/
theorem mOth_spec {i : Int} : ∀ k : Nat, mOth S i k ≠ -1 → S 221 (mOth S i k) < 2 ∧ mOth S i k ≠ i := by
  intro k
  induction k with
  | zero => intro h; exact absurd rfl h
  | succ k ih =>
    by_cases z : mOth S i k = -1
    · rw [mOth_1 z]
      intro h
      rcases mWriter_spec (S := S) (i := i) (t := S 242 k) (y := S 243 k) (S 100 44).toNat with ⟨a, -⟩ | ⟨j, -, b, c⟩
      · exact absurd a h
      · rw [c]; exact ⟨b.2.2.1, b.2.1⟩
    · rw [mOth_0 z]
      exact ih
/-- what becomes of an attempt -/
theorem try_cls {i : Nat} (h44 : S 100 44 = N) : (∀ o, o = 221 ∨ o = 225 → ∀ j, j ≠ (i : Int) → mTry1 S i o j = S o j) ∧ (mTry1 S i 221 i = 3 ∨ (mTry1 S i 221 i = S 221 i ∧ mTry1 S i 225 i = S 225 i) ∨ (mTry1 S i 221 i = 1 ∧ mTry1 S i 225 i ≠ i ∧ S 221 (mTry1 S i 225 i) < 2)) := by
  have e : ∀ o j, o ≠ 222 → mTry1 S i o j = mTriesI S i o j := fun o j h => up2_o _ _ _ _ h
  have fW : ∀ o k, o < 233 → o ≠ 100 → mWantI (up2 S 100 41 0) i o k = S o k := fun o k a b => (mWantI_fr o k (Or.inl a) (Or.inl b)).trans (up2_o _ _ _ _ b)
  have f44 : mWantI (up2 S 100 41 0) i 100 44 = N := (mWantI_fr 100 44 (Or.inl (by decide)) (Or.inr (by decide))).trans ((up2_k _ _ _ _ (by decide)).trans h44)
  have fin : ∀ T : IT, mTriesI S i = T → ((∀ o, o = 221 ∨ o = 225 → ∀ j, j ≠ (i : Int) → T o j = S o j) ∧ (T 221 i = 3 ∨ (T 221 i = S 221 i ∧ T 225 i = S 225 i) ∨ (T 221 i = 1 ∧ T 225 i ≠ i ∧ S 221 (T 225 i) < 2))) → (∀ o, o = 221 ∨ o = 225 → ∀ j, j ≠ (i : Int) → mTry1 S i o j = S o j) ∧ (mTry1 S i 221 i = 3 ∨ (mTry1 S i 221 i = S 221 i ∧ mTry1 S i 225 i = S 225 i) ∨ (mTry1 S i 221 i = 1 ∧ mTry1 S i 225 i ≠ i ∧ S 221 (mTry1 S i 225 i) < 2)) := fun T hT h => by
    rw [e 221 i (by decide), e 225 i (by decide), hT]
    exact ⟨fun o ho j hj => by rw [e o j (by omega), hT]; exact h.1 o ho j hj, h.2⟩
  have abo : ∀ W : IT, W 100 44 = N → (∀ o k, o < 233 → o ≠ 100 → W o k = S o k) → ((∀ o, o = 221 ∨ o = 225 → ∀ j, j ≠ (i : Int) → mAborts W i o j = S o j) ∧ mAborts W i 221 i = 3) := fun W h44 hW => by
    obtain ⟨T, hT, eA, -⟩ := mAborts_X (S := W) (i := (i : Int)) (N := N) h44
    rw [eA]
    unfold mends
    refine ⟨fun o ho j hj => ?_, ?_⟩
    · rw [up2_o _ _ _ _ (by omega)]
      have a : up2 (up2 T 221 i 3) 225 i (-1) o j = T o j := (if_neg (fun z => hj z.2)).trans (if_neg (fun z => hj z.2))
      rw [a, hT.1 o j (by omega) (Or.inl (by omega))]
      exact hW o j (by omega) (by omega)
    · rw [up2_o _ _ _ _ (by decide), up2_o _ _ _ _ (by decide), up2_eq]
  by_cases hw : bI (mWantQ (up2 S 100 41 0) i) = 0
  · exact fin _ (mTries_0 hw).1 ⟨fun o ho j _ => fW o j (by omega) (by omega), Or.inr (Or.inl ⟨fW 221 i (by decide) (by decide), fW 225 i (by decide) (by decide)⟩)⟩
  · generalize hWW : mWantI (up2 S 100 41 0) i = W at *
    have eT : mTriesI S i = mTryI W i := by rw [(mTries_1 hw).1, hWW]
    by_cases ho : mOth W i (W 100 41).toNat = -1
    · by_cases hl : mLate W i
      · have a := abo W f44 fW
        exact fin _ (eT.trans (mTry_late ho hl).1) ⟨a.1, Or.inl a.2⟩
      · have f : ∀ o j, o = 221 ∨ o = 225 → mDoes W i o j = S o j := fun o j h => by
          unfold mDoes
          rw [mDoesS_fr o j (by omega) (by omega), (mLog_X (S := W) (i := (i : Int)) f44 _).1 o j (by omega) (Or.inl (by omega))]
          exact fW o j (by omega) (by omega)
        exact fin _ (eT.trans (mTry_done ho hl).1) ⟨fun o h j _ => f o j h, Or.inr (Or.inl ⟨f 221 i (Or.inl rfl), f 225 i (Or.inr rfl)⟩)⟩
    · by_cases hc : mCh W i 60 (mOth W i (W 100 41).toNat) = i
      · have a := abo W f44 fW
        exact fin _ (eT.trans (mTry_vict ho hc).1) ⟨a.1, Or.inl a.2⟩
      · obtain ⟨s1, s2⟩ := mOth_spec _ ho
        refine fin _ (eT.trans (mTry_wait ho hc).1) ⟨fun o h j hj => ?_, Or.inr (Or.inr ⟨?_, ?_, ?_⟩)⟩
        · exact (if_neg (fun z => hj z.2)).trans ((if_neg (fun z => hj z.2)).trans (fW o j (by omega) (by omega)))
        · rw [up2_o _ _ _ _ (by decide), up2_eq]
        · rw [up2_eq]; exact s2
        · rw [up2_eq, ← fW 221 _ (by decide) (by decide)]; exact s1
/-- an attempt makes less to be done -/
theorem mM_try {i : Nat} (h4 : opC S n ≤ 4) (hi : i < n) (ho : S 221 i < 2) (h44 : S 100 44 = N) : mM (mTry1 (mGo S i) i) n ≤ mM S n ∧ (mFreed S i → mM (mTry1 (mGo S i) i) n + 1 ≤ mM S n) := by
  have g21 : ∀ j : Int, mGo S i 221 j = if j = i then 0 else S 221 j := fun j => by
    unfold mGo
    rw [up2_o _ _ _ _ (by decide)]
    by_cases e : j = i
    · rw [if_pos e, e, up2_eq]
    · rw [if_neg e, up2_k _ _ _ _ e]
  have g25 : ∀ j : Int, mGo S i 225 j = if j = i then -1 else S 225 j := fun j => by
    unfold mGo
    by_cases e : j = i
    · rw [if_pos e, e, up2_eq]
    · rw [if_neg e, up2_k _ _ _ _ e, up2_o _ _ _ _ (by decide)]
  have g44 : mGo S i 100 44 = N := by
    unfold mGo
    rw [up2_o _ _ _ _ (by decide), up2_o _ _ _ _ (by decide)]; exact h44
  obtain ⟨f, c⟩ := try_cls (S := mGo S i) (i := i) g44
  generalize mTry1 (mGo S i) i = T at *
  have f21 : ∀ j : Int, j ≠ i → T 221 j = S 221 j := fun j hj => by rw [f 221 (Or.inl rfl) j hj, g21, if_neg hj]
  have f25 : ∀ j : Int, j ≠ i → T 225 j = S 225 j := fun j hj => by rw [f 225 (Or.inr rfl) j hj, g25, if_neg hj]
  rw [g21, g25, if_pos rfl, if_pos rfl, g21] at c
  have u1 := cntI_upd (a := fun j => S 221 j < 2) (b := fun j => T 221 j < 2) n hi (fun j _ hj => by show T 221 j < 2 ↔ S 221 j < 2; rw [f21 j (by omega)])
  have oS : bI ((fun j : Int => S 221 j < 2) (i : Int)) = 1 := bI1 ho
  rw [oS] at u1
  have rS := cntI_rg (mFreed S) n
  by_cases h3 : T 221 i = 3
  · have oT : bI ((fun j : Int => T 221 j < 2) (i : Int)) = 0 := bI0 (by show ¬ T 221 i < 2; omega)
    rw [oT] at u1
    have le := cntI_le (g := mFreed T) (h := fun j => T 221 j < 2) n (fun j _ hj => by show T 221 j < 2; have := hj.1; omega)
    unfold mM opC fdC at *
    exact ⟨by omega, fun _ => by omega⟩
  · have c' := c.resolve_left h3
    have hT2 : T 221 i < 2 := by rcases c' with ⟨a, -⟩ | ⟨a, -⟩ <;> omega
    have oT : bI ((fun j : Int => T 221 j < 2) (i : Int)) = 1 := bI1 hT2
    rw [oT] at u1
    have u2 := cntI_upd (a := mFreed S) (b := mFreed T) n hi (fun j _ hj => by
      unfold mFreed
      rw [f21 j (by omega), f25 j (by omega)]
      by_cases e : S 225 j = i
      · rw [e]; exact ⟨fun z => by omega, fun z => by omega⟩
      · rw [f21 _ e])
    have nT : bI (mFreed T i) = 0 := bI0 (fun z => by
      unfold mFreed at z
      rcases c' with ⟨a, -⟩ | ⟨-, b, d⟩
      · omega
      · rw [if_neg b] at d
        rw [f21 _ b] at z
        omega)
    rw [nT] at u2
    have b01 : bI (mFreed S i) = 0 ∨ bI (mFreed S i) = 1 := by
      by_cases z : mFreed S i
      · exact Or.inr (bI1 z)
      · exact Or.inl (bI0 z)
    refine ⟨?_, fun z => ?_⟩
    · unfold mM opC fdC at *; omega
    · have := bI1 z
      unfold mM opC fdC at *; omega
/-- both find the same one to go on with -/
theorem next_eq (h : ER I S n N g lv mv q) : lfF I n = mNext S := by
  unfold lfF mNext
  rw [h.cnt.1, show ((n : Int)).toNat = n by omega]
  refine fs_iff n 0 (fun j j0 j1 => ?_)
  have t := fun (k : Nat) (hk : k < n) => (h.tx k hk).1
  have tj := t j.toNat (by omega)
  have pj := h.ph j.toNat (by omega)
  rw [show ((j.toNat : Nat) : Int) = j by omega] at tj pj
  unfold lfG mFreed
  rw [tj.2.2.2.1, tj.2.2.2.2.2]
  constructor
  · rintro ⟨a, ⟨b0, b1⟩, c⟩
    have tb := t (S 225 j).toNat (by omega)
    have pb := h.ph (S 225 j).toNat (by omega)
    rw [show (((S 225 j).toNat : Nat) : Int) = S 225 j by omega] at tb pb
    rw [tb.2.2.2.1] at c
    exact ⟨a, by omega⟩
  · rintro ⟨a, c⟩
    have b := pj.2.1 a
    have tb := t (S 225 j).toNat (by omega)
    rw [show (((S 225 j).toNat : Nat) : Int) = S 225 j by omega] at tb
    rw [tb.2.2.2.1]
    exact ⟨a, b, by omega⟩
theorem sumN_le {f : Nat → Nat} {c : Nat} : ∀ n : Nat, (∀ j, j < n → f j ≤ c) → sumN f n ≤ c * n := by
  intro n
  induction n with
  | zero => intro _; exact Nat.zero_le _
  | succ n ih =>
    intro h
    have a := ih (fun j hj => h j (by omega))
    have b := h n (by omega)
    show sumN f n + f n ≤ c * (n + 1)
    rw [Nat.mul_add, Nat.mul_one]
    omega
/-- the whole of what growth can take -/
theorem CB.pot (h : CB K P I n N g lq lv mv) (hc : ∀ j, j < n → I (tX j) 14 ≤ 8191) : pC g n lv mv ≤ 2000 ∧ pS g n lv mv ≤ 4456448 := by
  have n60 := h.e.2.1
  have g10 := h.g10
  have lg := lgP_le g10
  have b : ∀ j, j < n → (lv j ≤ 10 ∧ ps (lv j) ≤ 32768) ∧ mv j ≤ 11 ∧ pf (mv j) ≤ 32768 := fun j hj => by
    obtain ⟨-, c, d⟩ := h.t hj
    exact ⟨ps_cap c (hc j hj), pf_cap c d⟩
  have a1 := sumN_le (f := fun j => 2 * lv j + mv j) (c := 31) n (fun j hj => by show 2 * lv j + mv j ≤ 31; have := b j hj; omega)
  have a2 := sumN_le (f := fun j => ps (lv j) + pf (mv j)) (c := 65536) n (fun j hj => by show ps (lv j) + pf (mv j) ≤ 65536; have := b j hj; omega)
  unfold pC pS
  omega
end
