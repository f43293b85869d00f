/-! the reference's cascade is the least closed set -/
section
variable {S : IT} {s : Int}
theorem mPs_same {S : IT} {s : Int} (h : ∀ j : Nat, j < 384 → ¬ mSpG (mPs s j S) s j) : ∀ n, n ≤ 384 → mPs s n S = S := by
  intro n
  induction n with
  | zero => intro _; rfl
  | succ n ih =>
    intro hn
    rw [← mPs_no (h n (by omega))]
    exact ih (by omega)
/-- the set that a row falls into, by a set Y of rows that are gone -/
def mSpY (S : IT) (s : Int) (Y : Int → Prop) (k : Int) : Prop := mRowIn S s k ∧ ∃ c, 1 ≤ c ∧ c < S 201 (k.tdiv 64) ∧ S 206 (4 * k.tdiv 64 + c) ≠ -1 ∧ S 215 (mrow s (k.tdiv 64) (k.tmod 64) + c) ≠ -2147483648 ∧ mfind S s (S 206 (4 * k.tdiv 64 + c)) (S 215 (mrow s (k.tdiv 64) (k.tmod 64) + c)) ≠ -1 ∧ Y (64 * S 206 (4 * k.tdiv 64 + c) + mfind S s (S 206 (4 * k.tdiv 64 + c)) (S 215 (mrow s (k.tdiv 64) (k.tmod 64) + c))) ∧ S 207 (4 * k.tdiv 64 + c) = 1
/-- a heap that differs from S in what is gone alone -/
def SpF (S T : IT) : Prop := ∀ o k, o ≠ 239 → T o k = S o k
theorem mSpG_Y {T : IT} {k : Int} (f : SpF S T) : mSpG T s k ↔ T 239 k = 0 ∧ mSpY S s (fun q => T 239 q ≠ 0) k := by
  have f' : ∀ o, o ≠ 239 → T o = S o := fun o h => funext (fun k => f o k h)
  unfold mSpG mSpY mRefers mBroken mRowIn mfind
  rw [f' 201 (by decide), f' 206 (by decide), f' 207 (by decide), f' 214 (by decide), f' 215 (by decide)]
  constructor
  · rintro ⟨⟨a, b⟩, c, c0, c1, ⟨d1, d2, d3, d4⟩, d5⟩
    exact ⟨b, a, c, c0, c1, d1, d2, d3, d4, d5⟩
  · rintro ⟨b, a, c, c0, c1, d1, d2, d3, d4, d5⟩
    exact ⟨⟨a, b⟩, c, c0, c1, ⟨d1, d2, d3, d4⟩, d5⟩
theorem mSpY_mono {Y Z : Int → Prop} {k : Int} (h : mSpY S s Y k) (hYZ : ∀ q, Y q → Z q) : mSpY S s Z k := by
  obtain ⟨a, c, c0, c1, d1, d2, d3, d4, d5⟩ := h
  exact ⟨a, c, c0, c1, d1, d2, d3, hYZ _ d4, d5⟩
theorem mPs_F {T : IT} (f : SpF S T) (n : Nat) : SpF S (mPs s n T) := fun o k h => (mPs_fr n o k h).trans (f o k h)
theorem mPs_Y {T : IT} {Y : Int → Prop} (f : SpF S T) (hY : ∀ k, 0 ≤ k → k < 384 → mSpY S s Y k → Y k) (h : ∀ k, T 239 k ≠ 0 → Y k) : ∀ n, n ≤ 384 → ∀ k, mPs s n T 239 k ≠ 0 → Y k := by
  intro n
  induction n with
  | zero => intro _; exact h
  | succ n ih =>
    intro hn k hk
    by_cases g : mSpG (mPs s n T) s n
    · rw [← mPs_yes g] at hk
      by_cases e : k = (n : Int)
      · subst e
        have := (mSpG_Y (mPs_F f n)).mp g
        exact hY _ (by omega) (by omega) (mSpY_mono this.2 (fun q hq => ih (by omega) q hq))
      · rw [up2_k _ _ _ _ e] at hk
        exact ih (by omega) k hk
    · rw [← mPs_no g] at hk
      exact ih (by omega) k hk
theorem mSpread_F (n : Nat) : ∀ {T : IT}, SpF S T → SpF S (mSpread s n T) := fun f o k h => (mSpread_fr n o k h).trans (f o k h)
theorem mSpread_Y {Y : Int → Prop} (hY : ∀ k, 0 ≤ k → k < 384 → mSpY S s Y k → Y k) : ∀ (n : Nat) {T : IT}, SpF S T → (∀ k, T 239 k ≠ 0 → Y k) → ∀ k, mSpread s n T 239 k ≠ 0 → Y k := by
  intro n
  induction n with
  | zero => intro T _ h; exact h
  | succ n ih =>
    intro T f h k hk
    by_cases g : ∃ j : Int, 0 ≤ j ∧ j < 384 ∧ mSpG (mPs s j.toNat T) s j
    · rw [mSpread_go g] at hk
      exact ih (mPs_F f 384) (mPs_Y f hY h 384 (Nat.le_refl _)) k hk
    · rw [mSpread_end g] at hk
      exact mPs_Y f hY h 384 (Nat.le_refl _) k hk
theorem mPs_out {T : IT} : ∀ (n : Nat) (k : Int), (k < 0 ∨ 384 ≤ k) → n ≤ 384 → mPs s n T 239 k = T 239 k := by
  intro n
  induction n with
  | zero => intro k _ _; rfl
  | succ n ih =>
    intro k hk hn
    by_cases g : mSpG (mPs s n T) s n
    · rw [← mPs_yes g, up2_k _ _ _ _ (by omega)]
      exact ih k hk (by omega)
    · rw [← mPs_no g]; exact ih k hk (by omega)
theorem mSpread_up : ∀ (n : Nat) {T : IT} (k : Int), T 239 k ≠ 0 → mSpread s n T 239 k ≠ 0 := by
  intro n
  induction n with
  | zero => intro T k h; exact h
  | succ n ih =>
    intro T k h
    by_cases g : ∃ j : Int, 0 ≤ j ∧ j < 384 ∧ mSpG (mPs s j.toNat T) s j
    · rw [mSpread_go g]; exact ih k (mPs_up 384 k h)
    · rw [mSpread_end g]; exact mPs_up 384 k h
theorem mSpread_closed : ∀ (n : Nat) {T : IT}, mLeft T < n → ∀ k, 0 ≤ k → k < 384 → ¬ mSpG (mSpread s n T) s k := by
  intro n
  induction n with
  | zero =>
    intro T h
    have := cntI_rg (fun j => T 239 j = 0) 384
    unfold mLeft at h
    omega
  | succ n ih =>
    intro T h k k0 k1
    by_cases g : ∃ j : Int, 0 ≤ j ∧ j < 384 ∧ mSpG (mPs s j.toNat T) s j
    · rw [mSpread_go g]
      obtain ⟨j, j0, j1, hj⟩ := g
      have : mLeft (mPs s 384 T) < mLeft T := mLeft_lt (m := j.toNat) (by omega) (by rw [show ((j.toNat : Nat) : Int) = j by omega]; exact hj)
      exact ih (by omega) k k0 k1
    · rw [mSpread_end g]
      have hn : ∀ j : Nat, j < 384 → ¬ mSpG (mPs s j T) s j := fun j hj z => g ⟨(j : Int), by omega, by omega, by rw [show ((j : Int)).toNat = j by omega]; exact z⟩
      rw [mPs_same hn 384 (Nat.le_refl _)]
      have := hn k.toNat (by omega)
      rw [mPs_same hn k.toNat (by omega), show ((k.toNat : Nat) : Int) = k by omega] at this
      exact this
/-- what goes by a delete, told by indexes -/
theorem delX_set {t key : Int} (h206 : ∀ k, S 206 k = -1 ∨ (0 ≤ S 206 k ∧ S 206 k < 6)) (hix : ∀ t' y, 0 ≤ t' → t' < 6 → mfind S s t' y = -1 ∨ (0 ≤ mfind S s t' y ∧ mfind S s t' y < 64)) (hr : 0 ≤ 64 * t + mfind S s t key ∧ 64 * t + mfind S s t key < 384) :
    (∀ o k, o ≠ 239 → o ≠ 240 → mDelX S s t key o k = S o k) ∧ (mDelX S s t key 239 (64 * t + mfind S s t key) ≠ 0) ∧ (∀ k, 0 ≤ k → k < 384 → mDelX S s t key 240 k = 0) ∧
    (∀ k, 0 ≤ k → k < 384 → mSpY S s (fun q => mDelX S s t key 239 q ≠ 0) k → mDelX S s t key 239 k ≠ 0) ∧
    (∀ Y : Int → Prop, Y (64 * t + mfind S s t key) → (∀ k, 0 ≤ k → k < 384 → mSpY S s Y k → Y k) → ∀ k, 0 ≤ k → k < 384 → mDelX S s t key 239 k ≠ 0 → Y k) := by
  have hX0 : ∀ k, 0 ≤ k → k < 384 → mDelX0 S s t key 239 k = if k = 64 * t + mfind S s t key then 1 else 0 := fun k k0 k1 => by
    unfold mDelX0
    by_cases e : k = 64 * t + mfind S s t key
    · rw [if_pos e, e, up2_eq]
    · rw [if_neg e, up2_k _ _ _ _ e]
      exact if_pos ⟨Or.inl rfl, k0, k1⟩
  have hF : ∀ o k, o ≠ 239 → o ≠ 240 → mDelX S s t key o k = S o k := fun o k h1 h2 => mDelX_fr o k h1 h2
  -- the walk goes over a heap with its marks cleared
  have f0 : SpF (mDelX0 S s t key) (mDelX0 S s t key) := fun _ _ _ => rfl
  have yy : ∀ (Y : Int → Prop) k, mSpY (mDelX0 S s t key) s Y k ↔ mSpY S s Y k := fun Y k => by
    have f' : ∀ o, o ≠ 239 → o ≠ 240 → mDelX0 S s t key o = S o := fun o h1 h2 => funext (fun k => mDelX0_fr o k h1 h2)
    unfold mSpY mRowIn mfind
    rw [f' 201 (by decide) (by decide), f' 206 (by decide) (by decide), f' 207 (by decide) (by decide), f' 214 (by decide) (by decide), f' 215 (by decide) (by decide)]
  refine ⟨hF, ?_, fun k k0 k1 => ?_, fun k k0 k1 h => ?_, fun Y y0 hY k k0 k1 hk => ?_⟩
  · refine mSpread_up 385 _ ?_
    rw [hX0 _ hr.1 hr.2, if_pos rfl]; decide
  · unfold mDelX
    rw [mSpread_fr 385 240 k (by decide)]
    unfold mDelX0
    rw [up2_o _ _ _ _ (by decide)]
    exact if_pos ⟨Or.inr rfl, k0, k1⟩
  · have c := mSpread_closed (s := s) 385 (T := mDelX0 S s t key) (by have := cntI_rg (fun j => mDelX0 S s t key 239 j = 0) 384; unfold mLeft; omega) k k0 k1
    intro z
    exact c ((mSpG_Y (mSpread_F 385 f0)).mpr ⟨z, (yy _ k).mpr h⟩)
  · -- outside of the indexes nothing is asked
    have := mSpread_Y (S := mDelX0 S s t key) (s := s) (Y := fun q => (0 ≤ q ∧ q < 384) → Y q) (fun k k0 k1 h _ => hY k k0 k1 ?_) 385 f0 (fun k hk hk2 => ?_) k hk ⟨k0, k1⟩
    · exact this
    · have h' := (yy _ k).mp h
      obtain ⟨a, c, c0, c1, d1, d2, d3, d4, d5⟩ := h'
      have q1 := (h206 _).resolve_left d1
      have q2 := (hix _ (S 215 (mrow s (k.tdiv 64) (k.tmod 64) + c)) q1.1 q1.2).resolve_left d3
      exact ⟨a, c, c0, c1, d1, d2, d3, d4 (by omega), d5⟩
    · rw [hX0 k hk2.1 hk2.2] at hk
      by_cases e : k = 64 * t + mfind S s t key
      · rw [e]; exact y0
      · rw [if_neg e] at hk; exact absurd rfl hk
end
