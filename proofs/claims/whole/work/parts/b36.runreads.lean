/-! what a run reads -/
section
variable {I S : IT} {qn n : Nat} {x i : Int}
theorem fs_shift {a b : Int → Prop} {x : Int} : ∀ (n : Nat) (p : Int), (∀ j, p ≤ j → j < p + n → (a j ↔ b (x + j))) → fs b (x + p) n = @ite _ (fs a p n = -1 ∧ ∀ j, p ≤ j → j < p + n → ¬ a j) (Classical.propDecidable _) (-1) (x + fs a p n) := by
  intro n
  induction n with
  | zero => intro p _; exact (if_pos ⟨rfl, fun j h1 h2 => by omega⟩).symm
  | succ n ihZ =>
    intro p hZ
    by_cases haZ : a p
    · rw [fs_yes ((hZ p (Int.le_refl _) (by omega)).mp haZ), fs_yes haZ, if_neg (fun z => z.2 p (Int.le_refl _) (by omega) haZ)]
    · rw [fs_no (fun z => haZ ((hZ p (Int.le_refl _) (by omega)).mpr z)), fs_no haZ, Int.add_assoc, ihZ (p + 1) (fun j h1 h2 => hZ j (by omega) (by omega))]
      by_cases eZ : fs a (p + 1) n = -1 ∧ ∀ j, p + 1 ≤ j → j < p + 1 + n → ¬ a j
      · rw [if_pos eZ, if_pos ⟨eZ.1, fun j h1 h2 z => by
          by_cases ej : j = p
          · exact haZ (ej ▸ z)
          · exact eZ.2 j (by omega) (by omega) z⟩]
      · rw [if_neg eZ, if_neg (fun z => eZ ⟨z.1, fun j h1 h2 => z.2 j (by omega) (by omega)⟩)]
/-- a SCAN is read by a key -/
def mKey (S : IT) (x : Int) (n k : Nat) : Prop := mStop S (x + k + 1) (n - k - 1) ≠ -1 ∧ S 256 (mStop S (x + k + 1) (n - k - 1)) = 1
theorem key_same (hx : 0 ≤ x) (hq : QV S x n) (hr : QRe I S qn x n) {k : Nat} (hk : k < n) : (quK I qn (k : Int) ↔ mKey S x n k) ∧ (mKey S x n k → I (qn + 4) (quStop I qn ((k : Int) + 1) (I qn 0 - ((k : Int) + 1)).toNat * 4 + 2) = S 259 (mStop S (x + k + 1) (n - k - 1))) := by
  have e0Z : (I qn 0 - ((k : Int) + 1)).toNat = n - k - 1 := by rw [hr.1]; omega
  have sk : ∀ jZ : Int, (k : Int) + 1 ≤ jZ → jZ < (k : Int) + 1 + ((n - k - 1 : Nat) : Int) → ((¬ quSk I qn jZ ↔ ¬ mSkip S (x + jZ)) ∧ (quAsk I qn jZ ↔ (¬ mSkip S (x + jZ) ∧ S 256 (x + jZ) = 1)) ∧ (S 256 (x + jZ) = 1 → I (qn + 4) (jZ * 4 + 2) = S 259 (x + jZ))) := by
    intro jZ j0 j1
    obtain ⟨⟨r1Z, r2, r3⟩, r4, r5Z, r6, -⟩ := hr.2 jZ.toNat (by omega)
    have hv := hq.2 jZ.toNat (by omega)
    rw [show ((jZ.toNat : Nat) : Int) = jZ by omega] at r1Z r2 r3 r4 r5Z r6 hv
    rw [Int.add_zero] at r2
    have a0Z : S 256 (x + jZ) = 1 → 0 ≤ S 257 (x + jZ) := fun e => by
      obtain ⟨e1Z, restZ, -, qZ, -⟩ := hv.2.2.1 (by omega) (by omega)
      exact qZ.1
    have keyZ : quAsk I qn jZ ↔ (¬ mSkip S (x + jZ) ∧ S 256 (x + jZ) = 1) := by
      unfold quAsk mSkip
      rw [r1Z, r2, r3, r6]
      constructor
      · rintro ⟨u1Z, u2Z, u3, u4Z⟩
        exact ⟨by omega, u1Z⟩
      · rintro ⟨u1Z, u2Z⟩
        have := a0Z u2Z
        exact ⟨u2Z, by omega, by omega, by omega⟩
    refine ⟨?_, keyZ, fun e => r4 (by omega)⟩
    unfold quSk quFlt
    rw [keyZ, r1Z]
    unfold mSkip
    constructor
    · intro hZ zZ
      refine hZ ⟨by omega, fun w => w.1 zZ⟩
    · intro hZ zZ
      have := zZ.2
      by_cases e1Z : S 256 (x + jZ) = 1
      · exact this ⟨hZ, e1Z⟩
      · exact hZ (Or.inl (zZ.1.resolve_left e1Z))
  have shZ := fs_shift (a := fun zZ => ¬ quSk I qn zZ) (b := fun zZ => ¬ mSkip S zZ) (x := x) (n - k - 1) ((k : Int) + 1) (fun jZ j0 j1 => (sk jZ j0 j1).1)
  have spZ := fs_spec (fun zZ => ¬ quSk I qn zZ) (n - k - 1) ((k : Int) + 1)
  have em : mStop S (x + k + 1) (n - k - 1) = fs (fun zZ => ¬ mSkip S zZ) (x + ((k : Int) + 1)) (n - k - 1) := by
    unfold mStop; rw [Int.add_assoc]
  unfold quK mKey quStop
  rw [e0Z, em, shZ]
  rcases spZ with ⟨s1Z, s2Z⟩ | ⟨s1Z, s2Z, s3Z, -⟩
  · rw [if_pos ⟨s1Z, s2Z⟩, s1Z]
    exact ⟨⟨fun zZ => absurd rfl zZ.1, fun zZ => absurd rfl zZ.1⟩, fun zZ => absurd rfl zZ.1⟩
  · generalize fs (fun zZ => ¬ quSk I qn zZ) ((k : Int) + 1) (n - k - 1) = zZ at *
    rw [if_neg (fun w => by omega)]
    obtain ⟨t1Z, t2Z, t3Z⟩ := sk zZ s1Z s2Z
    rw [t2Z]
    exact ⟨⟨fun w => ⟨by omega, w.2.2⟩, fun w => ⟨by omega, t1Z.mp s3Z, w.2⟩⟩, fun w => t3Z w.2⟩
def qW (S : IT) (x : Int) (n j : Nat) (t : Int) : Prop := S 256 (x + j) = 0 ∧ t = S 257 (x + j) ∧ ¬ mKey S x n j
def qY (S : IT) (x : Int) (n j : Nat) (t y : Int) : Prop := S 256 (x + j) = 0 ∧ t = S 257 (x + j) ∧ mKey S x n j ∧ y = S 259 (mStop S (x + j + 1) (n - j - 1))
theorem rd_same (hx : 0 ≤ x) (hq : QV S x n) (hr : QRe I S qn x n) {k : Nat} (hk : k < n) : (∀ t, rdW I qn k t ↔ qW S x n k t) ∧ ∀ t y, rdY I qn k t y ↔ qY S x n k t y := by
  obtain ⟨⟨r1Z, r2, -⟩, -⟩ := hr.2 k hk
  obtain ⟨aZ, bZ⟩ := key_same hx hq hr hk
  unfold rdW rdY qW qY
  rw [r1Z, r2, aZ]
  refine ⟨fun t => Iff.rfl, fun t y => ?_⟩
  constructor
  · rintro ⟨u1Z, u2Z, u3, u4Z⟩; exact ⟨u1Z, u2Z, u3, u4Z.trans (bZ u3)⟩
  · rintro ⟨u1Z, u2Z, u3, u4Z⟩; exact ⟨u1Z, u2Z, u3, u4Z.trans (bZ u3).symm⟩
theorem MrD.wh {t : Int} (ht : 0 ≤ t ∧ t < 6) : MrD S (up2 S 236 (6 * i + t) 1) i (fun t' => t' = t) (fun _ _ => False) 0 := by
  have frZ : ∀ o q, o ≠ 236 → up2 S 236 (6 * i + t) 1 o q = S o q := fun o q hZ => up2_o _ _ _ _ hZ
  have wh : ∀ t', 0 ≤ t' → t' < 6 → (up2 S 236 (6 * i + t) 1 236 (6 * i + t') = 1 ↔ S 236 (6 * i + t') = 1 ∨ t' = t) := fun t' h0 h1 => by
    by_cases eZ : t' = t
    · rw [eZ, up2_eq]; exact ⟨fun _ => Or.inr rfl, fun _ => rfl⟩
    · rw [up2_k _ _ _ _ (by omega)]; exact ⟨Or.inl, fun z => z.resolve_right eZ⟩
  refine ⟨⟨fun j _ => frZ 233 j (by decide), fun j _ => ⟨frZ 234 j (by decide), frZ 235 j (by decide)⟩, fun j hj => up2_k _ _ _ _ (by omega)⟩, fun t' y h0 h1 => ?_, wh, by rw [frZ 233 i (by decide)]; omega, fun hZ _ j => by rw [frZ 234 j (by decide)]; exact hZ j, fun _ => frZ 233 i (by decide)⟩
  have eZ : mRead (up2 S 236 (6 * i + t) 1) i t' y ↔ (S 236 (6 * i + t') = 1 ∨ t' = t) ∨ ∃ j, 2048 * i ≤ j ∧ j < 2048 * i + S 233 i ∧ (S 234 j = t' ∧ S 235 j = y) := by
    unfold mRead
    rw [wh t' h0 h1]
    exact Iff.rfl
  rw [eZ]
  unfold mRead
  constructor
  · rintro ((hZ | hZ) | hZ)
    · exact Or.inl (Or.inl hZ)
    · exact Or.inr (Or.inl hZ)
    · exact Or.inl (Or.inr hZ)
  · rintro ((hZ | hZ) | hZ | hZ)
    · exact Or.inl (Or.inl hZ)
    · exact Or.inr hZ
    · exact Or.inl (Or.inr hZ)
    · exact hZ.elim
theorem mStop_of {T : IT} (h : ∀ o, 256 ≤ o → o ≤ 260 → T o = S o) (z : Int) (m : Nat) : mStop T z m = mStop S z m := by
  unfold mStop
  refine congrFun (congrFun (congrArg fs (funext (fun w => ?_))) z) m
  unfold mSkip
  rw [h 256 (by decide) (by decide), h 257 (by decide) (by decide), h 258 (by decide) (by decide), h 260 (by decide) (by decide)]
theorem mRa_MrD (hs : SSch S) (hq : QV S x n) (h0 : 0 ≤ S 233 i ∧ S 233 i + 4 ≤ 2048) : ∀ k : Nat, k ≤ n → MrD S (mRa S i x n k) i (fun t => ∃ j : Nat, j < k ∧ qW S x n j t) (fun t y => ∃ j : Nat, j < k ∧ qY S x n j t y) (wsZ (wsT S x k) : Int) := by
  intro k
  induction k with
  | zero => intro _; exact MrD.rf.iff (fun t _ _ => ⟨False.elim, fun ⟨j, hj, _⟩ => by omega⟩) (fun t y => ⟨False.elim, fun ⟨j, hj, _⟩ => by omega⟩) (Int.le_refl _)
  | succ k ihZ =>
    intro hk
    have h1 := ihZ (by omega)
    have h6 := hs.1.2
    have w3Z := (wsT_ok hs hq k (by omega)).2
    have wnZ : wsZ (wsT S x (k + 1)) = wsZ (wsT S x k) + (if S 256 (x + k) = 0 then 1 else 0) := ws1_sum (hq.2 k (by omega))
    have wn0 : S 256 (x + k) = 0 → wsZ (wsT S x (k + 1)) = wsZ (wsT S x k) + 1 := fun eZ => by rw [wnZ, if_pos eZ]
    have wn1 : S 256 (x + k) ≠ 0 → wsZ (wsT S x (k + 1)) = wsZ (wsT S x k) := fun eZ => by rw [wnZ, if_neg eZ, Nat.add_zero]
    clear wnZ
    have frZ := mRa_fr (I := S) (i := i) (x := x) (n := n) k
    have fo : ∀ o, 256 ≤ o → o ≤ 260 → mRa S i x n k o = S o := fun o aZ bZ => funext (fun q => frZ o q (Or.inr (by omega)))
    by_cases eZ : S 256 (x + k) = 0
    · have wnZ := wn0 eZ
      rw [mRa_yes eZ]
      have ht := ((hq.2 k (by omega)).2.1 eZ).1
      have c1Z := h1.2.2.2.1
      have stoZ := mStop_of (S := S) (T := mRa S i x n k) fo (x + k + 1) (n - k - 1)
      have yr : ∀ t y, qY S x n k t y → 0 ≤ t ∧ t < 6 := fun t y zZ => by rw [zZ.2.1]; omega
      by_cases hk' : mKey S x n k
      · have e2Z : mRa1 (mRa S i x n k) i (x + k) (n - k - 1) = mReadsKey (mRa S i x n k) i (S 257 (x + k)) (S 259 (mStop S (x + k + 1) (n - k - 1))) := by
          rw [mRa1_k stoZ hk'.1 (by rw [fo 256 (by decide) (by decide)]; exact hk'.2), fo 257 (by decide) (by decide), fo 259 (by decide) (by decide)]
        rw [e2Z]
        refine (h1.tr (MrD.key (key := S 259 (mStop S (x + k + 1) (n - k - 1))) ⟨by omega, by omega⟩ ⟨ht.1, by omega⟩) (fun t y zZ => by rw [zZ.1]; omega)).iff (fun t _ _ => ?_) (fun t y => ?_) (by omega)
        · constructor
          · rintro (⟨j, aZ, bZ⟩ | zZ)
            · exact ⟨j, by omega, bZ⟩
            · exact zZ.elim
          · rintro ⟨j, aZ, bZ⟩
            by_cases ej : j = k
            · subst ej; exact absurd hk' bZ.2.2
            · exact Or.inl ⟨j, by omega, bZ⟩
        · constructor
          · rintro (⟨j, aZ, bZ⟩ | zZ)
            · exact ⟨j, by omega, bZ⟩
            · exact ⟨k, by omega, eZ, zZ.1, hk', zZ.2⟩
          · rintro ⟨j, aZ, bZ⟩
            by_cases ej : j = k
            · subst ej; exact Or.inr ⟨bZ.2.1, bZ.2.2.2⟩
            · exact Or.inl ⟨j, by omega, bZ⟩
      · have e2Z : mRa1 (mRa S i x n k) i (x + k) (n - k - 1) = up2 (mRa S i x n k) 236 (6 * i + S 257 (x + k)) 1 := by
          rw [mRa1_w (fun zZ => hk' (by
            have z1 := zZ.1
            have z2 := zZ.2
            rw [stoZ] at z1 z2
            rw [fo 256 (by decide) (by decide)] at z2
            exact ⟨z1, z2⟩)), fo 257 (by decide) (by decide)]
        rw [e2Z]
        refine (h1.tr (MrD.wh (t := S 257 (x + k)) ⟨ht.1, by omega⟩) (fun t y zZ => zZ.elim)).iff (fun t _ _ => ?_) (fun t y => ?_) (by omega)
        · constructor
          · rintro (⟨j, aZ, bZ⟩ | zZ)
            · exact ⟨j, by omega, bZ⟩
            · exact ⟨k, by omega, eZ, zZ, hk'⟩
          · rintro ⟨j, aZ, bZ⟩
            by_cases ej : j = k
            · subst ej; exact Or.inr bZ.2.1
            · exact Or.inl ⟨j, by omega, bZ⟩
        · constructor
          · rintro (⟨j, aZ, bZ⟩ | zZ)
            · exact ⟨j, by omega, bZ⟩
            · exact zZ.elim
          · rintro ⟨j, aZ, bZ⟩
            by_cases ej : j = k
            · subst ej; exact absurd bZ.2.2.1 hk'
            · exact Or.inl ⟨j, by omega, bZ⟩
    · have wnZ := wn1 eZ
      rw [mRa_no eZ]
      refine h1.iff (fun t _ _ => ⟨fun ⟨j, aZ, bZ⟩ => ⟨j, by omega, bZ⟩, fun ⟨j, aZ, bZ⟩ => ⟨j, ?_, bZ⟩⟩) (fun t y => ⟨fun ⟨j, aZ, bZ⟩ => ⟨j, by omega, bZ⟩, fun ⟨j, aZ, bZ⟩ => ⟨j, ?_, bZ⟩⟩) (by omega)
      · have : j ≠ k := fun zZ => eZ (zZ ▸ bZ.1)
        omega
      · have : j ≠ k := fun zZ => eZ (zZ ▸ bZ.1)
        omega
end
