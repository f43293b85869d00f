/-! a commit, row by row -/
section
variable {f f' : Int → Rw4} {n y r0 : Int} {ρ0 ρ : Rw4}
def tIn (f : Int → Rw4) (n : Int) (ρ : Rw4) : Prop := ∃ r, 0 ≤ r ∧ r < n ∧ ρ = f r
def tUn (f : Int → Rw4) (n : Int) : Prop := ∀ r q, 0 ≤ r → r < n → 0 ≤ q → q < n → (f r).1 = (f q).1 → r = q
theorem t_ovw (hu : tUn f n) (h0 : 0 ≤ r0 ∧ r0 < n) (hy : (f r0).1 = y) (hρ : ρ0.1 = y) (e0 : f' r0 = ρ0) (e : ∀ r, 0 ≤ r → r < n → r ≠ r0 → f' r = f r) : (∀ ρ, tIn f' n ρ ↔ (ρ.1 = y ∧ ρ = ρ0) ∨ (ρ.1 ≠ y ∧ tIn f n ρ)) ∧ tUn f' n := by
  have k : ∀ r, 0 ≤ r → r < n → (f' r).1 = (f r).1 := fun r r1 r2 => by
    by_cases c : r = r0
    · rw [c, e0, hρ, hy]
    · rw [e r r1 r2 c]
  refine ⟨fun ρ => ⟨?_, ?_⟩, fun r q r1 r2 q1 q2 h => hu r q r1 r2 q1 q2 (by rw [← k r r1 r2, ← k q q1 q2]; exact h)⟩
  · rintro ⟨r, r1, r2, rfl⟩
    by_cases c : r = r0
    · rw [c, e0]; exact Or.inl ⟨hρ, rfl⟩
    · rw [e r r1 r2 c]
      exact Or.inr ⟨fun z => c (hu r r0 r1 r2 h0.1 h0.2 (z.trans hy.symm)), r, r1, r2, rfl⟩
  · rintro (⟨-, rfl⟩ | ⟨h1, r, r1, r2, rfl⟩)
    · exact ⟨r0, h0.1, h0.2, e0.symm⟩
    · exact ⟨r, r1, r2, (e r r1 r2 (fun c => h1 (by rw [c]; exact hy))).symm⟩
theorem t_app (hu : tUn f n) (h0 : 0 ≤ n) (hn : ∀ r, 0 ≤ r → r < n → (f r).1 ≠ y) (hρ : ρ0.1 = y) (e0 : f' n = ρ0) (e : ∀ r, 0 ≤ r → r < n → f' r = f r) : (∀ ρ, tIn f' (n + 1) ρ ↔ (ρ.1 = y ∧ ρ = ρ0) ∨ (ρ.1 ≠ y ∧ tIn f n ρ)) ∧ tUn f' (n + 1) := by
  refine ⟨fun ρ => ⟨?_, ?_⟩, fun r q r1 r2 q1 q2 h => ?_⟩
  · rintro ⟨r, r1, r2, rfl⟩
    by_cases c : r = n
    · rw [c, e0]; exact Or.inl ⟨hρ, rfl⟩
    · rw [e r r1 (by omega)]; exact Or.inr ⟨hn r r1 (by omega), r, r1, by omega, rfl⟩
  · rintro (⟨-, rfl⟩ | ⟨h1, r, r1, r2, rfl⟩)
    · exact ⟨n, h0, by omega, e0.symm⟩
    · exact ⟨r, r1, by omega, (e r r1 r2).symm⟩
  · by_cases c : r = n
    · by_cases d : q = n
      · rw [c, d]
      · rw [c, e0, hρ, e q q1 (by omega)] at h
        exact absurd h.symm (hn q q1 (by omega))
    · by_cases d : q = n
      · rw [d, e0, hρ, e r r1 (by omega)] at h
        exact absurd h (hn r r1 (by omega))
      · rw [e r r1 (by omega), e q q1 (by omega)] at h
        exact hu r q r1 (by omega) q1 (by omega) h
theorem t_out (hu : tUn f n) (h0 : 0 ≤ r0 ∧ r0 < n) (hy : (f r0).1 = y) (e0 : f' r0 = f (n - 1)) (e : ∀ r, 0 ≤ r → r < n → r ≠ r0 → f' r = f r) : (∀ ρ, tIn f' (n - 1) ρ ↔ ρ.1 ≠ y ∧ tIn f n ρ) ∧ tUn f' (n - 1) := by
  have img : ∀ r, 0 ≤ r → r < n - 1 → f' r = f (if r = r0 then n - 1 else r) ∧ (0 ≤ (if r = r0 then n - 1 else r) ∧ (if r = r0 then n - 1 else r) < n) ∧ (if r = r0 then n - 1 else r) ≠ r0 := fun r r1 r2 => by
    by_cases c : r = r0
    · rw [if_pos c, c, e0]; exact ⟨rfl, by omega, by omega⟩
    · rw [if_neg c, e r r1 (by omega) c]; exact ⟨rfl, by omega, c⟩
  refine ⟨fun ρ => ⟨?_, ?_⟩, fun r q r1 r2 q1 q2 h => ?_⟩
  · rintro ⟨r, r1, r2, rfl⟩
    obtain ⟨a, b, c⟩ := img r r1 r2
    rw [a]
    exact ⟨fun z => c (hu _ r0 b.1 b.2 h0.1 h0.2 (z.trans hy.symm)), _, b.1, b.2, rfl⟩
  · rintro ⟨h1, r, r1, r2, rfl⟩
    have c : r ≠ r0 := fun c => h1 (by rw [c]; exact hy)
    by_cases d : r = n - 1
    · exact ⟨r0, h0.1, by omega, by rw [d, e0]⟩
    · exact ⟨r, r1, by omega, (e r r1 r2 c).symm⟩
  · obtain ⟨a, b, c⟩ := img r r1 r2
    obtain ⟨a', b', c'⟩ := img q q1 q2
    rw [a, a'] at h
    have := hu _ _ b.1 b.2 b'.1 b'.2 h
    split at this <;> split at this <;> omega
end
section
variable {S T U : IT} {s t t' y A r0 r : Int} {i : Nat} {ρ : Rw4}
/-- a table's row -/
def tbR (T : IT) (s t r : Int) : Rw4 := q4 (T 215) (mrow s t r)
theorem mf_rg (h0 : 0 ≤ T 214 (6 * s + t)) : mfind T s t y = -1 ∨ (0 ≤ mfind T s t y ∧ mfind T s t y < T 214 (6 * s + t) ∧ (tbR T s t (mfind T s t y)).1 = y) := mfnd_rg h0
theorem mf_none (h0 : 0 ≤ T 214 (6 * s + t)) : mfind T s t y = -1 ↔ ∀ r, 0 ≤ r → r < T 214 (6 * s + t) → (tbR T s t r).1 ≠ y := mfind_none h0
/-- a row copied into another's place -/
theorem tb_cpy (hr : 0 ≤ r ∧ r < 64) (h0 : 0 ≤ r0 ∧ r0 < 64) (ht : 0 ≤ t ∧ t < 6) (ht' : 0 ≤ t' ∧ t' < 6) : tbR (cpyI U 215 A 215 (mrow 4 t r0) 4) 4 t' r = if t' = t ∧ r = r0 then q4 (U 215) A else tbR U 4 t' r := by
  unfold tbR
  by_cases c : t' = t ∧ r = r0
  · rw [if_pos c, c.1, c.2]
    refine q4_of (fun z z0 z1 => ?_)
    refine (if_pos ⟨rfl, by omega, by omega⟩).trans ?_
    congr 1; omega
  · rw [if_neg c]
    exact q4_of (fun z z0 z1 => if_neg (fun w => c (by unfold mrow at w; omega)))
/-- what is committed has room; no key stands twice -/
def TbW (T : IT) (b : Int) : Prop := ∀ t, 0 ≤ t → t < 6 → (0 ≤ T 214 (24 + t) ∧ T 214 (24 + t) ≤ b) ∧ tUn (tbR T 4 t) (T 214 (24 + t))
def McR (T U : IT) (s t y : Int) : Prop := (∀ t' ρ, 0 ≤ t' → t' < 6 → (tIn (tbR U 4 t') (U 214 (24 + t')) ρ ↔ ((t' = t ∧ ρ.1 = y) ∧ mIn T s t ρ) ∨ (¬ (t' = t ∧ ρ.1 = y) ∧ tIn (tbR T 4 t') (T 214 (24 + t')) ρ))) ∧ (∀ t', 0 ≤ t' → t' < 6 → tUn (tbR U 4 t') (U 214 (24 + t'))) ∧
  (∀ t', U 214 (24 + t') = if t' = t then T 214 (24 + t) + (if mfind T s t y = -1 then 0 else 1) - (if mfind T 4 t y = -1 then 0 else 1) else T 214 (24 + t')) ∧ SlF T U 4 ∧ ∀ o k, o ≠ 214 → o ≠ 215 → U o k = T o k
theorem mcomR_row (hs : 0 ≤ s ∧ s < 4) (ho : RWm T s) (hb : TbW T 62) (ht : 0 ≤ t ∧ t < 6) : McR T (mcomR T s t y) s t y := by
  obtain ⟨⟨b0, b1⟩, bu⟩ := hb t ht.1 ht.2
  have e24 : (6 * 4 + t : Int) = 24 + t := by omega
  have o8 := ho.1 t ht.1 ht.2
  have B := mf_rg (T := T) (s := 4) (t := t) (y := y) (by rw [e24]; exact b0)
  have O := mf_rg (T := T) (s := s) (t := t) (y := y) o8.1
  have BN := mf_none (T := T) (s := 4) (t := t) (y := y) (by rw [e24]; exact b0)
  have ON := mf_none (T := T) (s := s) (t := t) (y := y) o8.1
  rw [e24] at B BN
  -- the own row with the key
  have own : mfind T s t y ≠ -1 → ∀ ρ : Rw4, ρ.1 = y → (mIn T s t ρ ↔ ρ = tbR T s t (mfind T s t y)) := fun h ρ hρ => by
    obtain ⟨a1, a2, a3⟩ := O.resolve_left h
    constructor
    · rintro ⟨r, r1, r2, rfl⟩
      have := ho.2.1 t r (mfind T s t y) ht.1 ht.2 r1 r2 a1 a2 (hρ.trans a3.symm)
      rw [← this]; rfl
    · intro e
      exact ⟨_, a1, a2, e⟩
  have noOwn : mfind T s t y = -1 → ∀ ρ : Rw4, ρ.1 = y → ¬ mIn T s t ρ := fun h ρ hρ ⟨r, r1, r2, e⟩ => ON.mp h r r1 r2 (by rw [← hρ, e]; rfl)
  have noB : mfind T 4 t y = -1 → ∀ ρ : Rw4, ρ.1 = y → ¬ tIn (tbR T 4 t) (T 214 (24 + t)) ρ := fun h ρ hρ ⟨r, r1, r2, e⟩ => BN.mp h r r1 r2 (by rw [← hρ, e])
  -- from the table alone to the whole
  have whole : ∀ U : IT, (∀ ρ, tIn (tbR U 4 t) (U 214 (24 + t)) ρ ↔ (ρ.1 = y ∧ mIn T s t ρ) ∨ (ρ.1 ≠ y ∧ tIn (tbR T 4 t) (T 214 (24 + t)) ρ)) → tUn (tbR U 4 t) (U 214 (24 + t)) → (U 214 (24 + t) = T 214 (24 + t) + (if mfind T s t y = -1 then 0 else 1) - (if mfind T 4 t y = -1 then 0 else 1)) →
      (∀ k, k ≠ 24 + t → U 214 k = T 214 k) → (∀ t' r, 0 ≤ t' → t' < 6 → t' ≠ t → 0 ≤ r → r < 64 → tbR U 4 t' r = tbR T 4 t' r) → (∀ z, ¬ (6144 ≤ z ∧ z < 7680) → U 215 z = T 215 z) → (∀ o k, o ≠ 214 → o ≠ 215 → U o k = T o k) → McR T U s t y := by
    intro U h1 h2 h3 h4 h5 h6 h7
    refine ⟨fun t' ρ t0 t1 => ?_, fun t' t0 t1 => ?_, fun t' => ?_, ⟨fun k hk => h4 k (by omega), fun z hz => h6 z (by omega)⟩, h7⟩
    · by_cases c : t' = t
      · subst c
        rw [h1]
        constructor
        · rintro (⟨a, b⟩ | ⟨a, b⟩)
          · exact Or.inl ⟨⟨rfl, a⟩, b⟩
          · exact Or.inr ⟨fun z => a z.2, b⟩
        · rintro (⟨⟨-, a⟩, b⟩ | ⟨a, b⟩)
          · exact Or.inl ⟨a, b⟩
          · exact Or.inr ⟨fun z => a ⟨rfl, z⟩, b⟩
      · have bt := (hb t' t0 t1).1
        rw [h4 (24 + t') (by omega)]
        have : tIn (tbR U 4 t') (T 214 (24 + t')) ρ ↔ tIn (tbR T 4 t') (T 214 (24 + t')) ρ := ⟨fun ⟨r, r1, r2, e⟩ => ⟨r, r1, r2, by rw [← h5 t' r t0 t1 c r1 (by omega)]; exact e⟩, fun ⟨r, r1, r2, e⟩ => ⟨r, r1, r2, by rw [h5 t' r t0 t1 c r1 (by omega)]; exact e⟩⟩
        rw [this]
        exact ⟨fun z => Or.inr ⟨fun w => c w.1, z⟩, fun z => z.elim (fun w => absurd w.1.1 c) (fun w => w.2)⟩
    · by_cases c : t' = t
      · rw [c]; exact h2
      · have bt := hb t' t0 t1
        rw [h4 (24 + t') (by omega)]
        intro r q r1 r2 q1 q2 h
        rw [h5 t' r t0 t1 c r1 (by omega), h5 t' q t0 t1 c q1 (by omega)] at h
        exact bt.2 r q r1 r2 q1 q2 h
    · by_cases c : t' = t
      · rw [if_pos c, c]; exact h3
      · rw [if_neg c]; exact h4 _ (by omega)
  by_cases ha : mfind T s t y = -1
  · by_cases hb2 : mfind T 4 t y = -1
    · rw [mcomR_a ha hb2]
      refine whole T (fun ρ => ⟨fun z => Or.inr ⟨fun w => noB hb2 ρ w z, z⟩, fun z => z.elim (fun w => absurd w.2 (noOwn ha ρ w.1)) (fun w => w.2)⟩) bu (by rw [if_pos ha, if_pos hb2]; omega) (fun _ _ => rfl) (fun _ _ _ _ _ _ _ => rfl) (fun _ _ => rfl) (fun _ _ _ _ => rfl)
    · obtain ⟨c1, c2, c3⟩ := B.resolve_left hb2
      rw [mcomR_b ha hb2, e24]
      have e14 : ∀ k, cpyI (up2 T 214 (24 + t) (T 214 (24 + t) - 1)) 215 (mrow 4 t (T 214 (24 + t) - 1)) 215 (mrow 4 t (mfind T 4 t y)) 4 214 k = if k = 24 + t then T 214 (24 + t) - 1 else T 214 k := fun k => by
        refine (if_neg (fun z => by omega)).trans ?_
        by_cases c : k = 24 + t
        · rw [c, up2_eq, if_pos rfl]
        · rw [up2_k _ _ _ _ c, if_neg c]
      have tb : ∀ t' r, 0 ≤ t' → t' < 6 → 0 ≤ r → r < 64 → tbR (cpyI (up2 T 214 (24 + t) (T 214 (24 + t) - 1)) 215 (mrow 4 t (T 214 (24 + t) - 1)) 215 (mrow 4 t (mfind T 4 t y)) 4) 4 t' r = if t' = t ∧ r = mfind T 4 t y then tbR T 4 t (T 214 (24 + t) - 1) else tbR T 4 t' r := fun t' r t0 t1 r0 r1 => tb_cpy ⟨r0, r1⟩ ⟨c1, by omega⟩ ht ⟨t0, t1⟩
      obtain ⟨o1, o2⟩ := t_out (f := tbR T 4 t) (f' := tbR (cpyI (up2 T 214 (24 + t) (T 214 (24 + t) - 1)) 215 (mrow 4 t (T 214 (24 + t) - 1)) 215 (mrow 4 t (mfind T 4 t y)) 4) 4 t) bu ⟨c1, c2⟩ c3 (by rw [tb t _ ht.1 ht.2 c1 (by omega), if_pos ⟨rfl, rfl⟩]) (fun r r1 r2 hr => by rw [tb t r ht.1 ht.2 r1 (by omega), if_neg (fun z => hr z.2)])
      refine whole _ (fun ρ => ?_) (by rw [e14, if_pos rfl]; exact o2) (by rw [e14, if_pos rfl, if_pos ha, if_neg hb2]; omega) (fun k hk => by rw [e14, if_neg hk]) (fun t' r t0 t1 ht' r1 r2 => by rw [tb t' r t0 t1 r1 r2, if_neg (fun z => ht' z.1)]) (fun z hz => if_neg (fun w => by unfold mrow at w; omega)) (fun o k o1 o2 => (if_neg (fun w => o2 w.1)).trans (up2_o _ _ _ _ o1))
      rw [e14, if_pos rfl, o1]
      exact ⟨Or.inr, fun z => z.elim (fun w => absurd w.2 (noOwn ha ρ w.1)) id⟩
  · obtain ⟨a1, a2, a3⟩ := O.resolve_left ha
    by_cases hb2 : mfind T 4 t y = -1
    · rw [mcomR_c ha hb2]
      have e14 : ∀ k, cpyI (up2 T 214 (24 + t) (T 214 (24 + t) + 1)) 215 (mrow s t (mfind T s t y)) 215 (mrow 4 t (T 214 (24 + t))) 4 214 k = if k = 24 + t then T 214 (24 + t) + 1 else T 214 k := fun k => by
        refine (if_neg (fun z => by omega)).trans ?_
        by_cases c : k = 24 + t
        · rw [c, up2_eq, if_pos rfl]
        · rw [up2_k _ _ _ _ c, if_neg c]
      have tb : ∀ t' r, 0 ≤ t' → t' < 6 → 0 ≤ r → r < 64 → tbR (cpyI (up2 T 214 (24 + t) (T 214 (24 + t) + 1)) 215 (mrow s t (mfind T s t y)) 215 (mrow 4 t (T 214 (24 + t))) 4) 4 t' r = if t' = t ∧ r = T 214 (24 + t) then tbR T s t (mfind T s t y) else tbR T 4 t' r := fun t' r t0 t1 r0 r1 => tb_cpy ⟨r0, r1⟩ ⟨b0, by omega⟩ ht ⟨t0, t1⟩
      obtain ⟨o1, o2⟩ := t_app (f := tbR T 4 t) (f' := tbR (cpyI (up2 T 214 (24 + t) (T 214 (24 + t) + 1)) 215 (mrow s t (mfind T s t y)) 215 (mrow 4 t (T 214 (24 + t))) 4) 4 t) bu b0 (BN.mp hb2) a3 (by rw [tb t _ ht.1 ht.2 b0 (by omega), if_pos ⟨rfl, rfl⟩]) (fun r r1 r2 => by rw [tb t r ht.1 ht.2 r1 (by omega), if_neg (fun z => by omega)])
      refine whole _ (fun ρ => ?_) (by rw [e14, if_pos rfl]; exact o2) (by rw [e14, if_pos rfl, if_neg ha, if_pos hb2]; omega) (fun k hk => by rw [e14, if_neg hk]) (fun t' r t0 t1 ht' r1 r2 => by rw [tb t' r t0 t1 r1 r2, if_neg (fun z => ht' z.1)]) (fun z hz => if_neg (fun w => by unfold mrow at w; omega)) (fun o k o1 o2 => (if_neg (fun w => o2 w.1)).trans (up2_o _ _ _ _ o1))
      rw [e14, if_pos rfl, o1]
      exact ⟨fun z => z.imp (fun w => ⟨w.1, (own ha ρ w.1).mpr w.2⟩) id, fun z => z.imp (fun w => ⟨w.1, (own ha ρ w.1).mp w.2⟩) id⟩
    · obtain ⟨c1, c2, c3⟩ := B.resolve_left hb2
      rw [mcomR_d ha hb2]
      have e14 : ∀ k, cpyI T 215 (mrow s t (mfind T s t y)) 215 (mrow 4 t (mfind T 4 t y)) 4 214 k = T 214 k := fun k => if_neg (fun z => by omega)
      have tb : ∀ t' r, 0 ≤ t' → t' < 6 → 0 ≤ r → r < 64 → tbR (cpyI T 215 (mrow s t (mfind T s t y)) 215 (mrow 4 t (mfind T 4 t y)) 4) 4 t' r = if t' = t ∧ r = mfind T 4 t y then tbR T s t (mfind T s t y) else tbR T 4 t' r := fun t' r t0 t1 r0 r1 => tb_cpy ⟨r0, r1⟩ ⟨c1, by omega⟩ ht ⟨t0, t1⟩
      obtain ⟨o1, o2⟩ := t_ovw (f := tbR T 4 t) (f' := tbR (cpyI T 215 (mrow s t (mfind T s t y)) 215 (mrow 4 t (mfind T 4 t y)) 4) 4 t) bu ⟨c1, c2⟩ c3 a3 (by rw [tb t _ ht.1 ht.2 c1 (by omega), if_pos ⟨rfl, rfl⟩]) (fun r r1 r2 hr => by rw [tb t r ht.1 ht.2 r1 (by omega), if_neg (fun z => hr z.2)])
      refine whole _ (fun ρ => ?_) (by rw [e14]; exact o2) (by rw [e14, if_neg ha, if_neg hb2]; omega) (fun k hk => e14 k) (fun t' r t0 t1 ht' r1 r2 => by rw [tb t' r t0 t1 r1 r2, if_neg (fun z => ht' z.1)]) (fun z hz => if_neg (fun w => by unfold mrow at w; omega)) (fun o k o1 o2 => if_neg (fun w => o2 w.1))
      rw [e14, o1]
      exact ⟨fun z => z.imp (fun w => ⟨w.1, (own ha ρ w.1).mpr w.2⟩) id, fun z => z.imp (fun w => ⟨w.1, (own ha ρ w.1).mp w.2⟩) id⟩
end
