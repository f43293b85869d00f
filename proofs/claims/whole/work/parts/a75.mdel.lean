/-! the reference's rows behind a delete -/
section
variable {S W V : IT} {s : Int}
/-- a state alone has changed -/
def SlF (S S2 : IT) (s : Int) : Prop := (∀ k, ¬ (6 * s ≤ k ∧ k < 6 * s + 6) → S2 214 k = S 214 k) ∧ ∀ z, ¬ (1536 * s ≤ z ∧ z < 1536 * s + 1536) → S2 215 z = S 215 z
theorem SlF.rf : SlF S S s := ⟨fun _ _ => rfl, fun _ _ => rfl⟩
theorem SlF.tr {S1 S2 : IT} (h : SlF S S1 s) (h' : SlF S1 S2 s) : SlF S S2 s := ⟨fun k hk => (h'.1 k hk).trans (h.1 k hk), fun z hz => (h'.2 z hz).trans (h.2 z hz)⟩
theorem SlF.row {S2 : IT} {q t : Int} (h : SlF S S2 s) (hq : q ≠ s) (ht : 0 ≤ t ∧ t < 6) : S2 214 (6 * q + t) = S 214 (6 * q + t) ∧ ∀ r c, 0 ≤ r → r < 64 → 0 ≤ c → c < 4 → S2 215 (mrow q t r + c) = S 215 (mrow q t r + c) := ⟨h.1 _ (by omega), fun r c r0 r1 c0 c1 => h.2 _ (by unfold mrow; omega)⟩
theorem SlF.oth {S2 : IT} {q : Int} (h : SlF S S2 s) (hq : q ≠ s) (hm : RWm S q) : (∀ t ρ, 0 ≤ t → t < 6 → (mIn S2 q t ρ ↔ mIn S q t ρ)) ∧ RWm S2 q := by
  have e := fun t (ht : 0 ≤ t ∧ t < 6) => h.row hq ht
  have k0 : ∀ t r, 0 ≤ t → t < 6 → 0 ≤ r → r < 64 → S2 215 (mrow q t r) = S 215 (mrow q t r) := fun t r t0 t1 r0 r1 => by have := (e t ⟨t0, t1⟩).2 r 0 r0 r1 (by decide) (by decide); rwa [Int.add_zero] at this
  refine ⟨fun t ρ t0 t1 => ?_, fun t t0 t1 => by rw [(e t ⟨t0, t1⟩).1]; exact hm.1 t t0 t1, fun t r x t0 t1 r0 r1 x0 x1 hx => ?_, fun t r t0 t1 r0 r1 => ?_⟩
  · have h8 := hm.1 t t0 t1
    unfold mIn
    rw [(e t ⟨t0, t1⟩).1]
    constructor
    · rintro ⟨r, r0, r1, rfl⟩
      exact ⟨r, r0, r1, q4_of (fun c c0 c1 => (e t ⟨t0, t1⟩).2 r c r0 (by omega) c0 c1)⟩
    · rintro ⟨r, r0, r1, rfl⟩
      exact ⟨r, r0, r1, q4_of (fun c c0 c1 => ((e t ⟨t0, t1⟩).2 r c r0 (by omega) c0 c1).symm)⟩
  · have h8 := hm.1 t t0 t1
    rw [(e t ⟨t0, t1⟩).1] at r1 x1
    rw [k0 t r t0 t1 r0 (by omega), k0 t x t0 t1 x0 (by omega)] at hx
    exact hm.2.1 t r x t0 t1 r0 r1 x0 x1 hx
  · have h8 := hm.1 t t0 t1
    rw [(e t ⟨t0, t1⟩).1] at r1
    have := hm.2.2 t r t0 t1 r0 r1
    rw [k0 t r t0 t1 r0 (by omega)]
    exact ⟨this.1, fun c c0 c1 => by rw [(e t ⟨t0, t1⟩).2 r c r0 (by omega) c0 c1]; exact this.2 c c0 c1⟩
/-- a cell that the first rows' blanking sets -/
def blZ (W : IT) (s : Int) (n : Int) (z : Int) : Prop := ∃ k c, 0 ≤ k ∧ k < n ∧ W 240 k ≠ 0 ∧ 1 ≤ c ∧ c < W 201 (k / 64) ∧ z = mrow s (k / 64) (k % 64) + c ∧ W 207 (4 * (k / 64) + c) = 2 ∧ mBroken W s (k / 64) (k % 64) c
/-- blanked cells change neither keys nor later cells of the row -/
theorem broken_bl {T : IT} {t r c : Int} (fT : ∀ o k, o ≠ 215 → T o k = W o k) (hB : ∀ z, T 215 z = W 215 z ∨ ∃ t' r' c', 0 ≤ r' ∧ r' < 64 ∧ 1 ≤ c' ∧ c' < 4 ∧ z = mrow s t' r' + c') (hc : T 215 (mrow s t r + c) = W 215 (mrow s t r + c)) : mBroken T s t r c ↔ mBroken W s t r c := by
  have f : ∀ o, o ≠ 215 → T o = W o := fun o h => funext (fun k => fT o k h)
  have em : ∀ t' y, mfind T s t' y = mfind W s t' y := fun t' y => by
    unfold mfind
    rw [f 214 (by decide)]
    have : (fun r => T 215 (4 * (64 * (6 * s + t') + r)) = y) = (fun r => W 215 (4 * (64 * (6 * s + t') + r)) = y) := funext (fun r => by
      rcases hB (4 * (64 * (6 * s + t') + r)) with h | ⟨t', r', c', r0, r1, c0, c1, e⟩
      · rw [h]
      · unfold mrow at e; omega)
    rw [this]
  unfold mBroken
  rw [f 206 (by decide), f 239 (by decide), hc, em]
theorem mBlR_set {t r : Int} {T0 : IT} (h4 : ∀ t, W 201 t ≤ 4) (ht : 0 ≤ r ∧ r < 64) (f0 : ∀ o k, o ≠ 215 → T0 o k = W o k) (hB0 : ∀ z, T0 215 z = W 215 z ∨ ∃ t' r' c', 0 ≤ r' ∧ r' < 64 ∧ 1 ≤ c' ∧ c' < 4 ∧ z = mrow s t' r' + c') (hr0 : ∀ c, 1 ≤ c → c < 4 → T0 215 (mrow s t r + c) = W 215 (mrow s t r + c)) : ∀ n : Nat, n < 4 →
    (∀ z, mBlR s t r n T0 215 z = if bI (∃ c, 1 ≤ c ∧ c ≤ (n : Int) ∧ z = mrow s t r + c ∧ W 207 (4 * t + c) = 2 ∧ mBroken W s t r c) = 1 then -2147483648 else T0 215 z) := by
  intro n
  induction n with
  | zero =>
    intro _ z
    rw [if_neg]
    · rfl
    · rw [bI0]
      · decide
      · rintro ⟨c, a, b, _⟩; omega
  | succ n ih =>
    intro hn z
    have ih := ih (by omega)
    have fT : ∀ o k, o ≠ 215 → mBlR s t r n T0 o k = W o k := fun o k h => (mBlR_fr n o k h).trans (f0 o k h)
    have hB : ∀ z, mBlR s t r n T0 215 z = W 215 z ∨ ∃ t' r' c', 0 ≤ r' ∧ r' < 64 ∧ 1 ≤ c' ∧ c' < 4 ∧ z = mrow s t' r' + c' := fun z => by
      rw [ih z]
      split
      · rename_i q
        obtain ⟨c, a, b, e, _⟩ : ∃ c, 1 ≤ c ∧ c ≤ (n : Int) ∧ z = mrow s t r + c ∧ W 207 (4 * t + c) = 2 ∧ mBroken W s t r c := bIn (by rw [q]; decide)
        exact Or.inr ⟨t, r, c, ht.1, ht.2, a, by omega, e⟩
      · exact hB0 z
    have hc : mBlR s t r n T0 215 (mrow s t r + ((n : Int) + 1)) = W 215 (mrow s t r + ((n : Int) + 1)) := by
      rw [ih, if_neg]
      · exact hr0 _ (by omega) (by omega)
      · rw [bI0]
        · decide
        · rintro ⟨c, a, b, e, _⟩; omega
    have eg : mBlG (mBlR s t r n T0) s t r ((n : Int) + 1) ↔ (W 207 (4 * t + ((n : Int) + 1)) = 2 ∧ mBroken W s t r ((n : Int) + 1)) := by
      unfold mBlG
      rw [fT 207 _ (by decide), broken_bl fT hB hc]
    by_cases g : mBlG (mBlR s t r n T0) s t r ((n : Int) + 1)
    · rw [← mBlR_yes g]
      have g' := eg.mp g
      by_cases e : z = mrow s t r + ((n : Int) + 1)
      · rw [if_pos (bI1 ⟨(n : Int) + 1, by omega, by omega, e, g'⟩), e, up2_eq]
      · rw [up2_k _ _ _ _ (fun q => e (by rw [q])), ih z]
        have : (∃ c, 1 ≤ c ∧ c ≤ (n : Int) ∧ z = mrow s t r + c ∧ W 207 (4 * t + c) = 2 ∧ mBroken W s t r c) ↔ ∃ c, 1 ≤ c ∧ c ≤ ((n + 1 : Nat) : Int) ∧ z = mrow s t r + c ∧ W 207 (4 * t + c) = 2 ∧ mBroken W s t r c := ⟨fun ⟨c, a, b, d⟩ => ⟨c, a, by omega, d⟩, fun ⟨c, a, b, d, f⟩ => ⟨c, a, by
          by_cases q : c = (n : Int) + 1
          · exact absurd (by rw [d, q]) e
          · omega, d, f⟩⟩
        rw [bIc this]
    · rw [← mBlR_no g, ih z]
      have : (∃ c, 1 ≤ c ∧ c ≤ (n : Int) ∧ z = mrow s t r + c ∧ W 207 (4 * t + c) = 2 ∧ mBroken W s t r c) ↔ ∃ c, 1 ≤ c ∧ c ≤ ((n + 1 : Nat) : Int) ∧ z = mrow s t r + c ∧ W 207 (4 * t + c) = 2 ∧ mBroken W s t r c := ⟨fun ⟨c, a, b, d⟩ => ⟨c, a, by omega, d⟩, fun ⟨c, a, b, d, f⟩ => ⟨c, a, by
        by_cases q : c = (n : Int) + 1
        · rw [q] at f; exact absurd (eg.mpr f) g
        · omega, d, f⟩⟩
      rw [bIc this]
theorem mBl_set (h4 : ∀ t, W 201 t ≤ 4) : ∀ n : Nat, n ≤ 384 → ∀ z, mBl s n W 215 z = if bI (blZ W s n z) = 1 then -2147483648 else W 215 z := by
  intro n
  induction n with
  | zero =>
    intro _ z
    rw [if_neg]
    · rfl
    · rw [bI0]
      · decide
      · rintro ⟨k, c, a, b, _⟩; omega
  | succ n ih =>
    intro hn z
    have ih := ih (by omega)
    obtain ⟨u1, u2⟩ := ix_of (k := (n : Int)) (by omega) (by omega)
    have e240 : mBl s n W 240 n = W 240 n := mBl_fr n 240 n (by decide)
    by_cases g : W 240 n = 0
    · rw [mBl_no (e240.trans g), ih z]
      have : blZ W s n z ↔ blZ W s (n + 1 : Nat) z := ⟨fun ⟨k, c, a, b, d⟩ => ⟨k, c, a, by omega, d⟩, fun ⟨k, c, a, b, d, f⟩ => ⟨k, c, a, by
        by_cases q : k = (n : Int)
        · rw [q] at d; exact absurd g d
        · omega, d, f⟩⟩
      rw [bIc this]
    · rw [mBl_yes (fun q => g (e240.symm.trans q)), u1, u2]
      have f0 : ∀ o k, o ≠ 215 → mBl s n W o k = W o k := fun o k h => mBl_fr n o k h
      have hB : ∀ z, mBl s n W 215 z = W 215 z ∨ ∃ t' r' c', 0 ≤ r' ∧ r' < 64 ∧ 1 ≤ c' ∧ c' < 4 ∧ z = mrow s t' r' + c' := fun z => by
        rw [ih z]
        split
        · rename_i q
          obtain ⟨k, c, k0, k1, k2, c0, c1, e, _⟩ : blZ W s n z := bIn (by rw [q]; decide)
          have := h4 (k / 64)
          exact Or.inr ⟨k / 64, k % 64, c, by omega, by omega, c0, by omega, e⟩
        · exact Or.inl rfl
      have hr : ∀ c, 1 ≤ c → c < 4 → mBl s n W 215 (mrow s ((n : Int) / 64) ((n : Int) % 64) + c) = W 215 (mrow s ((n : Int) / 64) ((n : Int) % 64) + c) := fun c c0 c1 => by
        rw [ih, if_neg]
        rw [bI0]
        · decide
        · rintro ⟨k, c', k0, k1, k2, d0, d1, e, _⟩
          have := h4 (k / 64)
          unfold mrow at e
          omega
      have w4 := h4 ((n : Int) / 64)
      have := mBlR_set (s := s) (W := W) (t := (n : Int) / 64) (r := (n : Int) % 64) h4 ⟨by omega, by omega⟩ f0 hB hr (mBl s n W 201 ((n : Int) / 64) - 1).toNat (by rw [f0 201 _ (by decide)]; omega) z
      rw [f0 201 _ (by decide)] at this
      rw [this, ih z]
      by_cases q : ∃ c, 1 ≤ c ∧ c ≤ (((W 201 ((n : Int) / 64) - 1).toNat : Nat) : Int) ∧ z = mrow s ((n : Int) / 64) ((n : Int) % 64) + c ∧ W 207 (4 * ((n : Int) / 64) + c) = 2 ∧ mBroken W s ((n : Int) / 64) ((n : Int) % 64) c
      · obtain ⟨c, a, b, d⟩ := q
        rw [if_pos (bI1 ⟨c, a, b, d⟩), if_pos (bI1 ⟨(n : Int), c, by omega, by omega, g, a, by omega, d⟩)]
      · rw [if_neg (by rw [bI0 q]; decide)]
        have : blZ W s n z ↔ blZ W s (n + 1 : Nat) z := ⟨fun ⟨k, c, a, b, d⟩ => ⟨k, c, a, by omega, d⟩, fun ⟨k, c, a, b, d, f⟩ => ⟨k, c, a, by
          by_cases w : k = (n : Int)
          · rw [w] at f; exact absurd ⟨c, f.1, by omega, f.2.2⟩ q
          · omega, d, f⟩⟩
        rw [bIc this]
/-- rows taken out: what is left lies somewhere, each once -/
def TkF (s : Int) (V T : IT) (ok : Int → Prop) : Prop := (∀ t, 0 ≤ t → t < 6 → 0 ≤ T 214 (6 * s + t) ∧ T 214 (6 * s + t) ≤ V 214 (6 * s + t)) ∧ ∃ f : Int → Int → Int, (∀ t r, 0 ≤ t → t < 6 → 0 ≤ r → r < T 214 (6 * s + t) → 0 ≤ f t r ∧ f t r < V 214 (6 * s + t) ∧ ok (64 * t + f t r) ∧ ∀ c, 0 ≤ c → c < 4 → T 215 (mrow s t r + c) = V 215 (mrow s t (f t r) + c)) ∧
  (∀ t r q, 0 ≤ t → t < 6 → 0 ≤ r → r < T 214 (6 * s + t) → 0 ≤ q → q < T 214 (6 * s + t) → f t r = f t q → r = q) ∧ ∀ t q, 0 ≤ t → t < 6 → 0 ≤ q → q < V 214 (6 * s + t) → ok (64 * t + q) → ∃ r, 0 ≤ r ∧ r < T 214 (6 * s + t) ∧ f t r = q
theorem mTk_set : ∀ (n : Nat) (V : IT), n ≤ 384 → (∀ t, 0 ≤ t → t < 6 → 0 ≤ V 214 (6 * s + t) ∧ V 214 (6 * s + t) ≤ 64) → (∀ j : Int, 0 ≤ j → j < n → V 239 j ≠ 0 → j % 64 < V 214 (6 * s + j / 64)) →
    TkF s V (mTk s n V) (fun k => k < n → V 239 k = 0) ∧ SlF V (mTk s n V) s := by
  intro n
  induction n with
  | zero =>
    intro V _ h64 _
    refine ⟨⟨fun t t0 t1 => ⟨(h64 t t0 t1).1, Int.le_refl _⟩, fun _ r => r, fun t r t0 t1 r0 r1 => ⟨r0, r1, fun h => by have h' : 64 * t + r < ((0 : Nat) : Int) := h; omega, fun _ _ _ => rfl⟩, fun _ _ _ _ _ _ _ _ _ e => e, fun t q _ _ q0 q1 _ => ⟨q, q0, q1, rfl⟩⟩, SlF.rf⟩
  | succ n ih =>
    intro V hn h64 hg
    by_cases g : V 239 n = 0
    · rw [mTk_no g]
      obtain ⟨⟨a, f, b, c, d⟩, e⟩ := ih V (by omega) h64 (fun j j0 j1 => hg j j0 (by omega))
      refine ⟨⟨a, f, fun t r t0 t1 r0 r1 => ?_, c, fun t q t0 t1 q0 q1 hq => d t q t0 t1 q0 q1 (fun z => hq (by omega))⟩, e⟩
      obtain ⟨b1, b2, b3, b4⟩ := b t r t0 t1 r0 r1
      refine ⟨b1, b2, fun z => ?_, b4⟩
      by_cases q : 64 * t + f t r = (n : Int)
      · rw [q]; exact g
      · exact b3 (by omega)
    · rw [mTk_yes g]
      obtain ⟨u1, u2⟩ := ix_of (k := (n : Int)) (by omega) (by omega)
      rw [u1, u2]
      have hr0 := hg n (by omega) (by omega) g
      have c64 := h64 ((n : Int) / 64) (by omega) (by omega)
      -- one row taken out
      have e214 : ∀ t, 0 ≤ t → t < 6 → mTake V s ((n : Int) / 64) ((n : Int) % 64) 214 (6 * s + t) = if t = (n : Int) / 64 then V 214 (6 * s + t) - 1 else V 214 (6 * s + t) := fun t t0 t1 => by
        rw [mTake_214]
        by_cases q : t = (n : Int) / 64
        · rw [if_pos (by omega), if_pos q, q]
        · rw [if_neg (by omega), if_neg q]
      have e215 : ∀ z, mTake V s ((n : Int) / 64) ((n : Int) % 64) 215 z = if mrow s ((n : Int) / 64) ((n : Int) % 64) ≤ z ∧ z < mrow s ((n : Int) / 64) ((n : Int) % 64) + 4 then V 215 (mrow s ((n : Int) / 64) (V 214 (6 * s + (n : Int) / 64) - 1) + (z - mrow s ((n : Int) / 64) ((n : Int) % 64))) else V 215 z := fun z => by
        unfold mTake cpyI
        by_cases q : mrow s ((n : Int) / 64) ((n : Int) % 64) ≤ z ∧ z < mrow s ((n : Int) / 64) ((n : Int) % 64) + 4
        · rw [if_pos ⟨rfl, q⟩, if_pos q, up2_o _ _ _ _ (by decide)]
        · rw [if_neg (fun w => q w.2), if_neg q, up2_o _ _ _ _ (by decide)]
      have e239 : ∀ k, mTake V s ((n : Int) / 64) ((n : Int) % 64) 239 k = V 239 k := fun k => mTake_fr 239 k (by decide) (by decide)
      have hV1 : ∀ t, 0 ≤ t → t < 6 → 0 ≤ mTake V s ((n : Int) / 64) ((n : Int) % 64) 214 (6 * s + t) ∧ mTake V s ((n : Int) / 64) ((n : Int) % 64) 214 (6 * s + t) ≤ 64 := fun t t0 t1 => by
        have := h64 t t0 t1
        rw [e214 t t0 t1]
        split
        · rename_i q; rw [q] at this ⊢; omega
        · exact this
      obtain ⟨⟨a, f, b, c, d⟩, e⟩ := ih (mTake V s ((n : Int) / 64) ((n : Int) % 64)) (by omega) hV1 (fun j j0 j1 hj => by
        rw [e239] at hj
        have := hg j j0 (by omega) hj
        rw [e214 _ (by omega) (by omega)]
        split
        · rename_i q
          rw [q] at this ⊢
          omega
        · exact this)
      have eS : SlF V (mTake V s ((n : Int) / 64) ((n : Int) % 64)) s := ⟨fun k hk => by rw [mTake_214, if_neg (by omega)], fun z hz => by rw [e215, if_neg (by unfold mrow; omega)]⟩
      refine ⟨⟨fun t t0 t1 => ?_, fun t r => if t = (n : Int) / 64 ∧ f t r = (n : Int) % 64 then V 214 (6 * s + t) - 1 else f t r, fun t r t0 t1 r0 r1 => ?_, fun t r q t0 t1 r0 r1 q0 q1 hq => ?_, fun t q t0 t1 q0 q1 hq => ?_⟩, eS.tr e⟩
      · have := a t t0 t1
        rw [e214 t t0 t1] at this
        refine ⟨this.1, ?_⟩
        split at this <;> omega
      · obtain ⟨b1, b2, b3, b4⟩ := b t r t0 t1 r0 r1
        rw [e214 t t0 t1] at b2
        simp only []
        by_cases q : t = (n : Int) / 64 ∧ f t r = (n : Int) % 64
        · rw [if_pos q]
          rw [if_pos q.1] at b2
          refine ⟨by omega, by omega, fun z => ?_, fun x x0 x1 => ?_⟩
          · have := q.1
            have := q.2
            omega
          · rw [b4 x x0 x1, e215, if_pos (by rw [q.2, q.1]; omega), q.2, q.1]
            congr 1; omega
        · rw [if_neg q]
          refine ⟨b1, by split at b2 <;> omega, fun z => ?_, fun x x0 x1 => ?_⟩
          · by_cases w : 64 * t + f t r = (n : Int)
            · have := h64 t t0 t1
              have f64 : f t r < 64 := by split at b2 <;> omega
              exact absurd ⟨by omega, by omega⟩ q
            · have := b3 (by omega)
              rw [e239] at this
              exact this
          · rw [b4 x x0 x1, e215, if_neg]
            have := h64 t t0 t1
            have f64 : f t r < 64 := by split at b2 <;> omega
            intro w
            refine q ?_
            unfold mrow at w
            exact ⟨by omega, by omega⟩
      · simp only [] at hq
        have hb1 := b t r t0 t1 r0 r1
        have hb2 := b t q t0 t1 q0 q1
        rw [e214 t t0 t1] at hb1 hb2
        refine c t r q t0 t1 r0 r1 q0 q1 ?_
        have b11 := hb1.2.1
        have b21 := hb2.2.1
        by_cases w1 : t = (n : Int) / 64 ∧ f t r = (n : Int) % 64
        · rw [if_pos w1] at hq
          by_cases w2 : t = (n : Int) / 64 ∧ f t q = (n : Int) % 64
          · rw [w1.2, w2.2]
          · rw [if_neg w2] at hq
            rw [if_pos w1.1] at b21
            omega
        · rw [if_neg w1] at hq
          by_cases w2 : t = (n : Int) / 64 ∧ f t q = (n : Int) % 64
          · rw [if_pos w2] at hq
            rw [if_pos w2.1] at b11
            omega
          · rw [if_neg w2] at hq
            exact hq
      · have hq' : V 239 (64 * t + q) = 0 ∨ (n : Int) < 64 * t + q := by
          by_cases w : 64 * t + q < ((n + 1 : Nat) : Int)
          · exact Or.inl (hq w)
          · exact Or.inr (by omega)
        have hne : ¬ (t = (n : Int) / 64 ∧ q = (n : Int) % 64) := fun w => by
          have e9 : 64 * t + q = (n : Int) := by omega
          rw [e9] at hq'
          rcases hq' with z | z
          · exact g z
          · omega
        by_cases w : t = (n : Int) / 64 ∧ q = V 214 (6 * s + t) - 1
        · -- the last row has taken the place
          obtain ⟨r, r0, r1, r2⟩ := d t ((n : Int) % 64) t0 t1 (by omega) (by
            rw [e214 t t0 t1, if_pos w.1]
            have hr1 : (n : Int) % 64 < V 214 (6 * s + t) := by rw [w.1]; exact hr0
            have h1 : q ≠ (n : Int) % 64 := fun z => hne ⟨w.1, z⟩
            have h2 := w.2
            omega) (fun z => by have := w.1; omega)
          exact ⟨r, r0, r1, by simp only []; rw [if_pos ⟨w.1, r2⟩]; exact w.2.symm⟩
        · obtain ⟨r, r0, r1, r2⟩ := d t q t0 t1 q0 (by rw [e214 t t0 t1]; split <;> omega) (fun z => by rw [e239]; exact hq (by omega))
          exact ⟨r, r0, r1, by simp only []; rw [if_neg (fun z => hne ⟨z.1, r2 ▸ z.2⟩)]; exact r2⟩
end
