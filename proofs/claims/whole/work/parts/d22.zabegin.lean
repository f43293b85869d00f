/-! a transaction begins: the reference's state; the account -/
section
variable {I S : IT} {n N g k : Nat} {lv mv : Nat → Nat} {q x : Int}
theorem begin_at (h : ER I S n N g lv mv q) (hf : mTakenN S ≠ 4) : ∃ f : Int, (0 ≤ f ∧ f < 4) ∧ S 226 f = 0 ∧ (∀ o, (o < 214 ∨ (215 < o ∧ o < 220) ∨ 226 < o) → o ≠ 100 → mBegin S x o = S o) ∧ (∀ k, k ≠ 19 → mBegin S x 100 k = S 100 k) ∧ mBegin S x 100 19 = ((n + 1 : Nat) : Int) ∧ (∀ o (j : Int), 220 ≤ o → o ≤ 225 → j ≠ n → mBegin S x o j = S o j) ∧ (mBegin S x 221 n = 0 ∧ mBegin S x 222 n = -1 ∧ mBegin S x 223 n = f ∧ mBegin S x 225 n = -1) ∧ (∀ t ρ, 0 ≤ t → t < 6 → (mIn (mBegin S x) f t ρ ↔ mIn S 4 t ρ)) ∧ SlF S (mBegin S x) f ∧ ∀ j, opS S n j → S 223 j ≠ f := by
  have n60 := h.cnt.2.2.1
  have h19 := h.cnt.1
  obtain ⟨f0, f4⟩ := mFree_rg hf
  have ff : S 226 (mFree S) = 0 := by
    rcases fs_spec (fun j => S 226 j = 0) 4 0 with ⟨e, -⟩ | ⟨-, -, e, -⟩
    · unfold mFree at f0; omega
    · exact e
  unfold mBegin
  generalize mFree S = f at *
  -- the reference's frames
  have z0 : ∀ o k, (o < 220 ∨ 226 < o) → (o ≠ 100 ∨ k ≠ 19) → mBg0 S f x o k = S o k := fun o k a b => by
    unfold mBg0
    rw [up2_o _ _ _ _ (by omega), up2_o _ _ _ _ (by omega), up2_o _ _ _ _ (by omega), up2_o _ _ _ _ (by omega), up2_o _ _ _ _ (by omega), up2_o _ _ _ _ (by omega), up2_o _ _ _ _ (by omega)]
    exact if_neg (fun z => by omega)
  have zj : ∀ o (j : Int), 220 ≤ o → o ≤ 225 → j ≠ n → mBg0 S f x o j = S o j := fun o j a b e => by
    have e' : j ≠ S 100 19 := by rw [h19]; exact e
    unfold mBg0
    rw [up2_o _ _ _ _ (by omega)]
    exact (if_neg (fun z => e' z.2)).trans ((if_neg (fun z => e' z.2)).trans ((if_neg (fun z => e' z.2)).trans ((if_neg (fun z => e' z.2)).trans ((if_neg (fun z => e' z.2)).trans ((if_neg (fun z => e' z.2)).trans (up2_o _ _ _ _ (by omega)))))))
  have z26 : ∀ p : Int, mBg0 S f x 226 p = if p = f then 1 else S 226 p := fun p => by
    unfold mBg0
    by_cases e : p = f
    · rw [if_pos e, e, up2_eq]
    · rw [if_neg e, up2_k _ _ _ _ e, up2_o _ _ _ _ (by decide), up2_o _ _ _ _ (by decide), up2_o _ _ _ _ (by decide), up2_o _ _ _ _ (by decide), up2_o _ _ _ _ (by decide), up2_o _ _ _ _ (by decide), up2_o _ _ _ _ (by decide)]
  have own : mBg0 S f x 220 n = x ∧ mBg0 S f x 221 n = 0 ∧ mBg0 S f x 222 n = -1 ∧ mBg0 S f x 223 n = f ∧ mBg0 S f x 224 n = S 100 16 ∧ mBg0 S f x 225 n = -1 ∧ mBg0 S f x 100 19 = ((n + 1 : Nat) : Int) := by
    unfold mBg0
    rw [h19]
    refine ⟨?_, ?_, ?_, ?_, ?_, ?_, ?_⟩
    · rw [up2_o _ _ _ _ (by decide), up2_o _ _ _ _ (by decide), up2_o _ _ _ _ (by decide), up2_o _ _ _ _ (by decide), up2_o _ _ _ _ (by decide), up2_o _ _ _ _ (by decide), up2_eq]
    · rw [up2_o _ _ _ _ (by decide), up2_o _ _ _ _ (by decide), up2_o _ _ _ _ (by decide), up2_o _ _ _ _ (by decide), up2_o _ _ _ _ (by decide), up2_eq]
    · rw [up2_o _ _ _ _ (by decide), up2_o _ _ _ _ (by decide), up2_o _ _ _ _ (by decide), up2_o _ _ _ _ (by decide), up2_eq]
    · rw [up2_o _ _ _ _ (by decide), up2_o _ _ _ _ (by decide), up2_o _ _ _ _ (by decide), up2_eq]
    · rw [up2_o _ _ _ _ (by decide), up2_o _ _ _ _ (by decide), up2_eq]
    · rw [up2_o _ _ _ _ (by decide), up2_eq]
    · rw [up2_o _ _ _ _ (by decide), up2_o _ _ _ _ (by decide), up2_o _ _ _ _ (by decide), up2_o _ _ _ _ (by decide), up2_o _ _ _ _ (by decide), up2_o _ _ _ _ (by decide), up2_o _ _ _ _ (by decide), up2_eq]; omega
  have z14 : mBg0 S f x 214 = S 214 := funext (fun k => z0 214 k (by decide) (Or.inl (by decide)))
  have z15 : mBg0 S f x 215 = S 215 := funext (fun k => z0 215 k (by decide) (Or.inl (by decide)))
  have st := h.st
  have h8 : ∀ t, 0 ≤ t → t < 6 → 0 ≤ mBg0 S f x 214 (24 + t) ∧ mBg0 S f x 214 (24 + t) ≤ 8 := fun t t0 t1 => by
    have := st.2.1.1 t t0 t1
    rw [show (6 * 4 + t : Int) = 24 + t by omega] at this
    rw [z14]; exact this
  have B := mBgT_set (S := mBg0 S f x) (f := f) ⟨f0, f4⟩ h8 6 (by decide)
  have h4' : RWm (mBg0 S f x) 4 := st.2.1.of (fun k => congrFun z14 k) (fun k => congrFun z15 k)
  obtain ⟨br, bm, bs⟩ := bg_rows (s := 0) B ⟨f0, f4⟩ h4'
  obtain ⟨-, -, -, bo⟩ := B
  generalize mBgT f 6 (mBg0 S f x) = T at *
  have fo : ∀ o, (o < 214 ∨ (215 < o ∧ o < 220) ∨ 226 < o) → o ≠ 100 → T o = S o := fun o a b => funext (fun k => (bo o k (by omega) (by omega)).trans (z0 o k (by omega) (Or.inl b)))
  have f1 : ∀ k, k ≠ 19 → T 100 k = S 100 k := fun k hk => (bo 100 k (by decide) (by decide)).trans (z0 100 k (by decide) (Or.inr hk))
  have tj : ∀ o (j : Nat), 220 ≤ o → o ≤ 225 → j < n → T o j = S o j := fun o j a b hj => (bo o j (by omega) (by omega)).trans (zj o j a b (by omega))
  have tn : ∀ o, 220 ≤ o → o ≤ 225 → T o n = mBg0 S f x o n := fun o a b => bo o n (by omega) (by omega)
  have t26 : ∀ p : Int, T 226 p = if p = f then 1 else S 226 p := fun p => (bo 226 p (by decide) (by decide)).trans (z26 p)
  have sl : SlF S T f := by unfold SlF at *; rw [z14, z15] at bs; exact bs
  have m4 : ∀ t ρ, mIn (mBg0 S f x) 4 t ρ ↔ mIn S 4 t ρ := fun t ρ => mIn_of (fun k => congrFun z14 k) (fun k => congrFun z15 k)
  refine ⟨f, ⟨f0, f4⟩, ff, fo, f1, (bo 100 19 (by decide) (by decide)).trans own.2.2.2.2.2.2, fun o j a b e => (bo o j (by omega) (by omega)).trans (zj o j a b e), ⟨(tn 221 (by decide) (by decide)).trans own.2.1, (tn 222 (by decide) (by decide)).trans own.2.2.1, (tn 223 (by decide) (by decide)).trans own.2.2.2.1, (tn 225 (by decide) (by decide)).trans own.2.2.2.2.2.1⟩, fun t ρ t0 t1 => (br t ρ t0 t1).trans (m4 t ρ), sl, fun j hj e => ?_⟩
  exact (h.sl.2 f f0 f4).mpr ⟨j, hj, e⟩ ff
/-- one begins, for a call -/
theorem ZA.began (h : ZA k (-1) S) (hE : ER I S n N g lv mv q) (hn : n < 60) (hf : mTakenN S ≠ 4) : ZA (k + 1) (-1) (mBegin S x) := by
  obtain ⟨f, f4, ff, fo, f1, t19, tj, ⟨o21, -, o23, -⟩, hin, sl, hne⟩ := begin_at (x := x) hE hf
  obtain ⟨Kv, E, d, b, cB, chk, hK, hG, hW, hk, hb, hN⟩ := h
  have en : nS S = n := hE.wrd.2
  generalize mBegin S x = T at *
  have eT : nS T = n + 1 := by unfold nS; rw [t19, Int.toNat_natCast]
  have g1 := fo 201 (by omega) (by decide)
  have g27 := fo 227 (by omega) (by decide)
  have g28 := fo 228 (by omega) (by decide)
  have g46 := fo 246 (by omega) (by decide)
  have g47 := fo 247 (by omega) (by decide)
  have g48 := fo 248 (by omega) (by decide)
  have g49 := fo 249 (by omega) (by decide)
  have g44 := f1 44 (by decide)
  have g37 := f1 37 (by decide)
  have st4 := hE.st.2.1
  have s4 := sl.oth (q := 4) (by omega) st4
  have ewk : ∀ j, WrK T j = WrK S j := fun j => funext (fun z => by
    unfold WrK wrR
    rw [g46, g47, g48, g49, g44])
  have ewn : ∀ j, wN T j = wN S j := fun j => by
    unfold wN
    rw [g44]
    exact un_same _ (fun r _ => by rw [g46, g47]; exact ⟨rfl, rfl⟩)
  have opj : ∀ j, j < n → (opA T j ↔ opA S j) := fun j hj => by
    unfold opA
    rw [tj 221 j (by decide) (by decide) (by omega)]
  have opn : opA T n := by unfold opA; rw [o21]; decide
  have nw : ∀ z, ¬ WrK S n z := fun z ⟨r, r0, r1, r2, r3, _⟩ => by
    have := (hE.lr.1 r r0 (by rw [← hE.cnt.2.1]; exact r1)).2 (by omega)
    omega
  have nwn : wN S n = 0 := by
    unfold wN
    have : ∀ m : Nat, m ≤ N → unM S n m = [] := fun m => by
      induction m with
      | zero => intro _; rfl
      | succ m ih =>
        intro hm
        have e : unM S n (m + 1) = unM S n m := if_neg (fun z => by
          have := (hE.lr.1 m (by omega) (by omega)).2 (by omega)
          omega)
        rw [e]; exact ih (by omega)
    rw [hE.cnt.2.1, Int.toNat_natCast, this N (Nat.le_refl _)]; rfl
  have slot : ∀ j, j < n → opA S j → (∀ t ρ, 0 ≤ t → t < 6 → (mIn T (T 223 j) t ρ ↔ mIn S (S 223 j) t ρ)) ∧ RWm T (T 223 j) ∧ RWm S (S 223 j) ∧ T 223 j = S 223 j := fun j hj oj => by
    have e := tj 223 j (by decide) (by decide) (by omega)
    have own := (hE.own j ⟨hj, oj⟩).2.1
    have s := sl.oth (hne j ⟨hj, oj⟩) own
    rw [e]
    exact ⟨s.1, s.2, own, rfl⟩
  have ecap : capF T = capF S := funext (fun z => by unfold capF; rw [g1])
  have esum : ∀ (p p' : Nat → Prop) (u v : Nat → Nat), (∀ j, j < n → ((p' j ↔ p j) ∧ (p j → u j = v j))) → oS p' u n = oS p v n := fun p p' u v hp => oS_eq n (fun j hj => hp j hj)
  obtain ⟨d', hd'⟩ : ∃ d' : Nat → Nat, ∀ j, d' j = if j = n then 0 else d j := ⟨_, fun _ => rfl⟩
  obtain ⟨b', hb'⟩ : ∃ b' : Nat → Nat, ∀ j, b' j = if j = n then 0 else b j := ⟨_, fun _ => rfl⟩
  have dn : d' n = 0 := by rw [hd', if_pos rfl]
  have bn : b' n = 0 := by rw [hb', if_pos rfl]
  have dj : ∀ j, j < n → d' j = d j := fun j hj => by rw [hd', if_neg (by omega)]
  have bj : ∀ j, j < n → b' j = b j := fun j hj => by rw [hb', if_neg (by omega)]
  have wtn : ¬ wtA T (-1) n := fun z => z.elim (fun y => by rw [o21] at y; exact absurd y (by decide)) (fun y => by omega)
  rw [en] at hk hb hN
  refine ⟨Kv, E, d', b', cB, chk, ⟨⟨hK.1.1, fun z hz => by rw [g1]; exact hK.1.2 z hz⟩, fun t ρ t0 t1 hρ => hK.2.1 t ρ t0 t1 ((s4.1 t ρ t0 t1).mp hρ), fun j hj oj => ?_⟩, by rw [ecap]; exact hG, fun j hj oj => ?_, ?_, ?_, ?_⟩
  · rw [eT] at hj
    by_cases e : j = n
    · subst e
      refine ⟨fun t ρ t0 t1 hρ => ?_, fun z hz => ?_⟩
      · rw [o23] at hρ
        exact hK.2.1 t ρ t0 t1 ((hin t ρ t0 t1).mp hρ)
      · rw [ewk] at hz
        exact absurd hz (nw z)
    · have hj' : j < n := by omega
      have oj' := (opj j hj').mp oj
      obtain ⟨a, c⟩ := hK.2.2 j (by rw [en]; exact hj') oj'
      refine ⟨fun t ρ t0 t1 hρ => a t ρ t0 t1 (((slot j hj' oj').1 t ρ t0 t1).mp hρ), fun z hz => c z (by rw [← ewk]; exact hz)⟩
  · rw [eT] at hj
    by_cases e : j = n
    · subst e
      rw [ewn, nwn]
      exact ⟨Nat.zero_le _, Nat.zero_le _⟩
    · have hj' : j < n := by omega
      have oj' := (opj j hj').mp oj
      have w := hW j (by rw [en]; exact hj') oj'
      obtain ⟨a1, a2, a3, a4⟩ := slot j hj' oj'
      have le : kS (slk S (S 223 j) (WrK S j)) Kv ≤ kS (slk T (T 223 j) (WrK T j)) Kv := kS_le Kv (fun z hz => by
        have z6 := (hK.1.2 z hz).2
        rw [ewk]
        by_cases y : WrK S j z
        · have c := cw_same (w := S 201 z.1) (t := z.1) (y := z.2) (X := S) (S' := T) (s := S 223 j) a3 (by rw [← a4]; exact a2) z6 (fun ρ _ => by
            have := a1 z.1 ρ z6.1 z6.2
            rw [a4] at this
            exact this)
          rw [slk_y y, slk_y y, g1, a4, c]
          exact Nat.le_refl _
        · rw [slk_n y]; exact Nat.zero_le _)
      rw [ewn, dj j hj', bj j hj']
      exact ⟨w.1, by omega⟩
  · rw [ecap, eT, g37, oS_y opn, oS_n wtn, dn, esum (opA S) (opA T) (fun j => 1 + d' j) (fun j => 1 + d j) (fun j hj => ⟨opj j hj, fun _ => by show 1 + d' j = 1 + d j; rw [dj j hj]⟩), esum (wtA S (-1)) (wtA T (-1)) (rsv T) (rsv S) (fun j hj => ⟨by unfold wtA; rw [tj 221 j (by decide) (by decide) (by omega)], fun _ => by unfold rsv; rw [g27, g28, g1]⟩)]
    omega
  · rw [eT, oS_y opn, bn, esum (opA S) (opA T) b' b (fun j hj => ⟨opj j hj, fun _ => bj j hj⟩)]
    omega
  · rw [eT, oS_y opn, g44, ewn, nwn, esum (opA S) (opA T) (wN T) (wN S) (fun j hj => ⟨opj j hj, fun _ => ewn j⟩)]
    omega
end
