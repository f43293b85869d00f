/-! a transaction begins: its rows -/
section
variable {S T U : IT} {f t t' s' A r0 r : Int}
theorem tb_cpy2 (hr : 0 ≤ r ∧ r < 64) (h0 : 0 ≤ r0 ∧ r0 < 64) (ht : 0 ≤ t ∧ t < 6) (ht' : 0 ≤ t' ∧ t' < 6) : tbR (cpyI U 215 A 215 (mrow f t r0) 4) s' t' r = if s' = f ∧ t' = t ∧ r = r0 then q4 (U 215) A else tbR U s' t' r := by
  unfold tbR
  by_cases c : s' = f ∧ t' = t ∧ r = r0
  · rw [if_pos c, c.1, c.2.1, c.2.2]
    refine q4_of (fun z z0 z1 => ?_)
    refine (if_pos ⟨rfl, by omega, by omega⟩).trans ?_
    congr 1; omega
  · rw [if_neg c]
    exact q4_of (fun z z0 z1 => if_neg (fun w => c (by unfold mrow at w; omega)))
theorem mBgR_set (hf : 0 ≤ f ∧ f < 4) (ht : 0 ≤ t ∧ t < 6) : ∀ n : Nat, n ≤ 64 → (∀ s' t' r, 0 ≤ t' → t' < 6 → 0 ≤ r → r < 64 → tbR (mBgR f t n S) s' t' r = if s' = f ∧ t' = t ∧ r < n then tbR S 4 t r else tbR S s' t' r) ∧ ∀ z, ¬ (1536 * f ≤ z ∧ z < 1536 * f + 1536) → mBgR f t n S 215 z = S 215 z := by
  intro n
  induction n with
  | zero =>
    intro _
    exact ⟨fun s' t' r t0 t1 r0 r1 => (if_neg (fun z => by omega)).symm, fun z _ => rfl⟩
  | succ n ih =>
    intro hn
    obtain ⟨a, b⟩ := ih (by omega)
    refine ⟨fun s' t' r t0 t1 r0 r1 => ?_, fun z hz => ?_⟩
    · show tbR (cpyI (mBgR f t n S) 215 (mrow 4 t n) 215 (mrow f t n) 4) s' t' r = _
      rw [tb_cpy2 ⟨r0, r1⟩ ⟨by omega, by omega⟩ ht ⟨t0, t1⟩]
      by_cases c : s' = f ∧ t' = t ∧ r = n
      · rw [if_pos c, if_pos ⟨c.1, c.2.1, by omega⟩, c.2.2]
        have := a 4 t n ht.1 ht.2 (by omega) (by omega)
        rw [if_neg (fun z => by omega)] at this
        exact this
      · rw [if_neg c, a s' t' r t0 t1 r0 r1]
        by_cases d : s' = f ∧ t' = t ∧ r < n
        · rw [if_pos d, if_pos ⟨d.1, d.2.1, by omega⟩]
        · rw [if_neg d, if_neg (fun z => by omega)]
    · exact (if_neg (fun w => by unfold mrow at w; omega)).trans (b z hz)
def BgS (S : IT) (f : Int) (n : Nat) (T : IT) : Prop := (∀ k, T 214 k = if 6 * f ≤ k ∧ k < 6 * f + n then S 214 (24 + (k - 6 * f)) else S 214 k) ∧ (∀ t r, 0 ≤ t → t < 6 → 0 ≤ r → r < S 214 (24 + t) → t < n → tbR T f t r = tbR S 4 t r) ∧ (∀ z, ¬ (1536 * f ≤ z ∧ z < 1536 * f + 1536) → T 215 z = S 215 z) ∧ ∀ o k, o ≠ 214 → o ≠ 215 → T o k = S o k
theorem mBgT_set (hf : 0 ≤ f ∧ f < 4) (h8 : ∀ t, 0 ≤ t → t < 6 → 0 ≤ S 214 (24 + t) ∧ S 214 (24 + t) ≤ 8) : ∀ n : Nat, n ≤ 6 → BgS S f n (mBgT f n S) := by
  intro n
  induction n with
  | zero =>
    intro _
    exact ⟨fun k => (if_neg (fun z => by omega)).symm, fun t r t0 _ _ _ h => by omega, fun z _ => rfl, fun o k _ _ => rfl⟩
  | succ n ih =>
    intro hn
    obtain ⟨a, b, c, d⟩ := ih (by omega)
    have b8 := h8 n (by omega) (by omega)
    have e : mBgT f (n + 1) S = mBgR f n (S 214 (24 + n)).toNat (up2 (mBgT f n S) 214 (6 * f + n) (S 214 (24 + n))) := rfl
    obtain ⟨x, y⟩ := mBgR_set (S := up2 (mBgT f n S) 214 (6 * f + n) (S 214 (24 + n))) (f := f) (t := (n : Int)) hf ⟨by omega, by omega⟩ (S 214 (24 + n)).toNat (by omega)
    have ut : ∀ s' t' r, tbR (up2 (mBgT f n S) 214 (6 * f + n) (S 214 (24 + n))) s' t' r = tbR (mBgT f n S) s' t' r := fun s' t' r => by
      unfold tbR
      rw [show up2 (mBgT f n S) 214 (6 * f + n) (S 214 (24 + n)) 215 = mBgT f n S 215 from funext (fun k => up2_o _ _ _ _ (by decide))]
    rw [e]
    refine ⟨fun k => ?_, fun t r t0 t1 r0 r1 h => ?_, fun z hz => ?_, fun o k h1 h2 => ?_⟩
    · rw [mBgR_o _ 214 k (by decide)]
      by_cases g : k = 6 * f + n
      · rw [g, up2_eq, if_pos ⟨by omega, by omega⟩, show 24 + (6 * f + (n : Int) - 6 * f) = 24 + n by omega]
      · rw [up2_k _ _ _ _ g, a k]
        by_cases w : 6 * f ≤ k ∧ k < 6 * f + n
        · rw [if_pos w, if_pos ⟨by omega, by omega⟩]
        · rw [if_neg w, if_neg (fun z => by omega)]
    · have bt := h8 t t0 t1
      rw [x f t r t0 t1 r0 (by omega)]
      by_cases g : t = n
      · rw [if_pos ⟨rfl, g, by rw [← g]; omega⟩, ut, g]
        unfold tbR
        exact q4_of (fun z z0 z1 => c _ (by unfold mrow; omega))
      · rw [if_neg (fun z => g z.2.1), ut]
        exact b t r t0 t1 r0 r1 (by omega)
    · rw [y z hz, up2_o _ _ _ _ (by decide)]; exact c z hz
    · rw [mBgR_o _ o k h2, up2_o _ _ _ _ h1]; exact d o k h1 h2
/-- the rows of the place are those that are committed -/
theorem bg_rows {s : Int} (hB : BgS S f 6 T) (hf : 0 ≤ f ∧ f < 4) (h4 : RWm S 4) : (∀ t ρ, 0 ≤ t → t < 6 → (mIn T f t ρ ↔ mIn S 4 t ρ)) ∧ RWm T f ∧ SlF S T f := by
  obtain ⟨a, b, c, d⟩ := hB
  have cnt : ∀ t, 0 ≤ t → t < 6 → T 214 (6 * f + t) = S 214 (6 * 4 + t) := fun t t0 t1 => by
    rw [a, if_pos ⟨by omega, by omega⟩]; congr 1; omega
  have row : ∀ t r, 0 ≤ t → t < 6 → 0 ≤ r → r < S 214 (6 * 4 + t) → q4 (T 215) (mrow f t r) = q4 (S 215) (mrow 4 t r) := fun t r t0 t1 r0 r1 => b t r t0 t1 r0 (by rw [show (24 + t : Int) = 6 * 4 + t by omega]; exact r1) (by omega)
  refine ⟨fun t ρ t0 t1 => ?_, ⟨fun t t0 t1 => by rw [cnt t t0 t1]; exact h4.1 t t0 t1, fun t r x t0 t1 r0 r1 x0 x1 hx => ?_, fun t r t0 t1 r0 r1 => ?_⟩, ⟨fun k hk => by rw [a]; exact if_neg (fun z => hk ⟨z.1, by omega⟩), c⟩⟩
  · unfold mIn
    rw [cnt t t0 t1]
    exact ⟨fun ⟨r, r0, r1, e⟩ => ⟨r, r0, r1, by rw [e, row t r t0 t1 r0 r1]⟩, fun ⟨r, r0, r1, e⟩ => ⟨r, r0, r1, by rw [e, row t r t0 t1 r0 r1]⟩⟩
  · rw [cnt t t0 t1] at r1 x1
    have e1 := congrArg Prod.fst (row t r t0 t1 r0 r1)
    have e2 := congrArg Prod.fst (row t x t0 t1 x0 x1)
    exact h4.2.1 t r x t0 t1 r0 r1 x0 x1 (e1.symm.trans (hx.trans e2))
  · rw [cnt t t0 t1] at r1
    have e := row t r t0 t1 r0 r1
    obtain ⟨y1, y2⟩ := h4.2.2 t r t0 t1 r0 r1
    refine ⟨fun z => y1 ((congrArg Prod.fst e).symm.trans z), fun z z0 z1 => ?_⟩
    have := congrArg (fun ρ => g4 ρ z) e
    simp only [g4_q (f := T 215) (b := mrow f t r) (c := z) ⟨z0, z1⟩, g4_q (f := S 215) (b := mrow 4 t r) (c := z) ⟨z0, z1⟩] at this
    rw [this]; exact y2 z z0 z1
end
