/-! groups, bits that are kept, joins, sets -/
section
variable {I S I' S' : IT} {q n : Nat} {t c w v o d nt s : Int}
theorem group_cd (h : TrR I S q n) (hs : SSch S) : (cd_Model_group S c w o = 1 ∧ ¬ (1 ≤ I q 7 ∧ I q 0 < 12)) ∨ ((1 ≤ I q 7 ∧ I q 0 < 12) ∧ ((cd_Model_group S c w o = 2 ∧ ¬ ((c = -1 ∨ (0 ≤ c ∧ c < quLast I q)) ∧ (w = 0 ∨ (0 ≤ o ∧ o < quLast I q)))) ∨ (((c = -1 ∨ (0 ≤ c ∧ c < quLast I q)) ∧ (w = 0 ∨ (0 ≤ o ∧ o < quLast I q))) ∧ ((cd_Model_group S c w o = 3 ∧ ¬ (0 ≤ w ∧ w ≤ 3)) ∨ (cd_Model_group S c w o = 0 ∧ (0 ≤ w ∧ w ≤ 3)))))) := by
  unfold cd_Model_group
  by_cases eZ : 1 ≤ I q 7 ∧ I q 0 < 12
  · have pZ := ((h.tk 1).mp eZ).1
    rw [if_neg ((h.tk1 hs).mpr eZ)]
    refine Or.inr ⟨eZ, ?_⟩
    have f1Z : bI (mOfLast S c) ≠ 0 ↔ (0 ≤ c ∧ c < quLast I q) := bNe.trans (h.ofl (by omega) c)
    have f2Z : bI (mOfLast S o) ≠ 0 ↔ (0 ≤ o ∧ o < quLast I q) := bNe.trans (h.ofl (by omega) o)
    by_cases fZ : (c = -1 ∨ (0 ≤ c ∧ c < quLast I q)) ∧ (w = 0 ∨ (0 ≤ o ∧ o < quLast I q))
    · rw [if_neg (show ¬ ¬ ((c = -1 ∨ bI (mOfLast S c) ≠ 0) ∧ (w = 0 ∨ bI (mOfLast S o) ≠ 0)) from fun z => z ⟨fZ.1.imp id f1Z.mpr, fZ.2.imp id f2Z.mpr⟩)]
      refine Or.inr ⟨fZ, ?_⟩
      by_cases gZ : 0 ≤ w ∧ w ≤ 3
      · rw [if_pos (bNe.mpr gZ)]
        exact Or.inr ⟨rfl, gZ⟩
      · rw [if_neg (fun z => gZ (bNe.mp z))]
        exact Or.inl ⟨rfl, gZ⟩
    · rw [if_pos (show ¬ ((c = -1 ∨ bI (mOfLast S c) ≠ 0) ∧ (w = 0 ∨ bI (mOfLast S o) ≠ 0)) from fun z => fZ ⟨z.1.imp id f1Z.mp, z.2.imp id f2Z.mp⟩)]
      exact Or.inl ⟨rfl, fZ⟩
  · rw [if_pos (Classical.byContradiction (fun z => eZ ((h.tk1 hs).mp z)))]
    exact Or.inl ⟨rfl, eZ⟩
theorem TrR.group {x : Int} (h : TrR I S q n) (hs : SSch S) (hn : n < 12) (h51 : 0 < S 100 51) (hc : c = -1 ∨ (0 ≤ c ∧ c < quLast I q)) (ho : w = 0 ∨ (0 ≤ o ∧ o < quLast I q)) (hw : 0 ≤ w ∧ w ≤ 3) (hx : x = if w = 0 then 0 else o) : TrR (quOne I q 6 2 c w x 0) (f_Model_group c w o S).1 q (n + 1) ∧ quOne I q 6 2 c w x 0 q 7 = (f_Model_group c w o S).2 := by
  obtain ⟨eZ, restZ, h1, h2, -⟩ := h.top hs h51
  rw [h.last, if_pos h51, h2] at hc ho
  have m0Z := (mAddX (S := S) (T := mAdd S 6 c w o 0) rfl h.1.1).1 254 (by decide) (by omega)
  refine h.one (op := 6) (A := c) (B := w) (C := o) (C' := x) (nt := 0) hs hn h51 (by decide) ⟨by decide, fun z => absurd z (by decide), fun _ z => absurd z (by decide), fun z => absurd z (by decide), fun z => absurd z (by decide), fun _ => ⟨eZ, restZ, h1, hc, ho, hw⟩, fun z => absurd z (by decide)⟩ (fun z => by rw [hx, if_neg (fun y => z ⟨rfl, y⟩)]) (fun _ z => by rw [hx, if_pos z]) rfl (fun p hp => funext (fun k => up2_o _ _ _ _ hp)) (fun k => ?_) (fun e' r he => ?_)
  · show up2 (mAdd S 6 c w o 0) 254 (S 100 51 - 1) 2 254 k = _
    rw [up2_if, m0Z]
  · rw [h1, ws1_g rfl] at he
    cases he; rfl
theorem keep_cd (h : TrR I S q n) (hs : SSch S) : (cd_Model_keep S s = 1 ∧ ¬ (1 ≤ I q 7 ∧ I q 0 < 12)) ∨ ((1 ≤ I q 7 ∧ I q 0 < 12) ∧ ((cd_Model_keep S s = 2 ∧ ¬ (1 ≤ s ∧ s < 2 ^ (quLast I q).toNat)) ∨ (cd_Model_keep S s = 0 ∧ (1 ≤ s ∧ s < 2 ^ (quLast I q).toNat)))) := by
  unfold cd_Model_keep
  by_cases eZ : 1 ≤ I q 7 ∧ I q 0 < 12
  · have pZ := ((h.tk 1).mp eZ).1
    rw [if_neg ((h.tk1 hs).mpr eZ)]
    refine Or.inr ⟨eZ, ?_⟩
    have hl0 : quLast I q = S 254 (S 100 51 - 1) := by rw [h.last, if_pos (by omega)]
    rw [hl0]
    generalize (2 : Int) ^ (S 254 (S 100 51 - 1)).toNat = b
    by_cases gZ : 1 ≤ s ∧ s < b
    · rw [if_pos (bNe.mpr ⟨gZ.1, by omega⟩)]
      exact Or.inr ⟨rfl, gZ⟩
    · rw [if_neg (fun z => gZ (by have := bNe.mp z; omega))]
      exact Or.inl ⟨rfl, gZ⟩
  · rw [if_pos (Classical.byContradiction (fun z => eZ ((h.tk1 hs).mp z)))]
    exact Or.inl ⟨rfl, eZ⟩
theorem TrR.keep {x : Int} (h : TrR I S q n) (hs : SSch S) (hn : n < 12) (h51 : 0 < S 100 51) (hc : 1 ≤ s ∧ s < 2 ^ (quLast I q).toNat) (hx : x = ((wk s 10 : Nat) : Int)) : TrR (quOne I q 5 x s 0 0 0) (f_Model_keep s S).1 q (n + 1) ∧ quOne I q 5 x s 0 0 0 q 7 = (f_Model_keep s S).2 := by
  obtain ⟨eZ, restZ, h1, h2, h3, h4⟩ := h.top hs h51
  rw [h.last, if_pos h51, h2, show (((eZ.1 : Nat) : Int)).toNat = eZ.1 by omega] at hc
  have m0Z := (mAddX (S := S) (T := mAdd S 5 s 0 0 0) rfl h.1.1).1 254 (by decide) (by omega)
  have e4Z : eZ.1 ≤ 10 := by omega
  have c31Z : mCnt s 31 = wk s eZ.1 := mCnt_31 (by omega) hc.2 e4Z
  have p10 : (2 : Int) ^ eZ.1 ≤ 2 ^ 10 := by
    have := Nat.pow_le_pow_right (n := 2) (by decide) e4Z
    have aZ : (((2 : Nat) ^ eZ.1 : Nat) : Int) ≤ ((2 ^ 10 : Nat) : Int) := Int.ofNat_le.mpr this
    rw [Int.natCast_pow, Int.natCast_pow] at aZ
    exact aZ
  have c10Z : mCnt s 31 = wk s 10 := mCnt_31 (by omega) (Int.lt_of_lt_of_le hc.2 p10) (Nat.le_refl _)
  refine h.one (op := 5) (A := s) (B := 0) (C := 0) (C' := 0) (nt := 0) hs hn h51 (by decide) ⟨by decide, fun z => absurd z (by decide), fun _ z => absurd z (by decide), fun z => absurd z (by decide), fun _ => ⟨eZ, restZ, h1, by omega, hc.2⟩, fun z => absurd z (by decide), fun z => absurd z (by decide)⟩ (fun _ => rfl) (fun z => absurd z (by decide)) rfl (fun p hp => funext (fun k => up2_o _ _ _ _ hp)) (fun k => ?_) (fun e' r he => ?_)
  · show up2 (mAdd S 5 s 0 0 0) 254 (S 100 51 - 1) (mCnt s 31) 254 k = _
    rw [up2_if, m0Z, hx, c10Z]
  · rw [h1, ws1_k rfl] at he
    cases he
    show x = ((wk s eZ.1 : Nat) : Int)
    rw [hx, ← c10Z, c31Z]
theorem combine_cd (h : TrR I S q n) (hs : SSch S) : (cd_Model_combine S w = 1 ∧ ¬ ((2 ≤ I q 7 ∧ I q 0 < 12) ∧ quEarl I q = quLast I q)) ∨ (((2 ≤ I q 7 ∧ I q 0 < 12) ∧ quEarl I q = quLast I q) ∧ ((cd_Model_combine S w = 2 ∧ ¬ (0 ≤ w ∧ w ≤ 2)) ∨ (cd_Model_combine S w = 0 ∧ (0 ≤ w ∧ w ≤ 2)))) := by
  obtain ⟨-, bZ, -, n12⟩ := h.qub hs
  obtain ⟨a1Z, a2, a3, a4⟩ := h.1
  have kZ : (1 < S 100 51 ∧ bI (S 100 52 = 12) = 0 ∧ S 254 (S 100 51 - 2) = S 254 (S 100 51 - 1)) ↔ ((2 ≤ I q 7 ∧ I q 0 < 12) ∧ quEarl I q = quLast I q) := by
    rw [bEq, h.last, h.earl]
    constructor
    · intro zZ
      rw [if_pos zZ.1, if_pos (by omega)]
      exact ⟨⟨by omega, by omega⟩, zZ.2.2⟩
    · intro zZ
      have z2 := zZ.2
      rw [if_pos (show 1 < S 100 51 by omega), if_pos (show 0 < S 100 51 by omega)] at z2
      exact ⟨by omega, by omega, z2⟩
  unfold cd_Model_combine
  by_cases eZ : (2 ≤ I q 7 ∧ I q 0 < 12) ∧ quEarl I q = quLast I q
  · rw [if_neg (fun zZ => zZ (kZ.mpr eZ))]
    refine Or.inr ⟨eZ, ?_⟩
    by_cases gZ : 0 ≤ w ∧ w ≤ 2
    · rw [if_pos (bNe.mpr gZ)]
      exact Or.inr ⟨rfl, gZ⟩
    · rw [if_neg (fun zZ => gZ (bNe.mp zZ))]
      exact Or.inl ⟨rfl, gZ⟩
  · rw [if_pos (fun zZ => eZ (kZ.mp zZ))]
    exact Or.inl ⟨rfl, eZ⟩
theorem TrR.combine (h : TrR I S q n) (hs : SSch S) (hn : n < 12) (h51 : 1 < S 100 51) (he : quEarl I q = quLast I q) : TrR (quTwo I q 7 (quLast I q) w 0 0) (f_Model_combine w S).1 q (n + 1) ∧ quTwo I q 7 (quLast I q) w 0 0 q 7 = (f_Model_combine w S).2 := by
  obtain ⟨eZ, d, restZ, h1, h2, h3⟩ := h.top2 hs h51
  rw [h.last, h.earl, if_pos h51, if_pos (by omega), h2, h3] at he
  have mZ := mAddX (S := S) (T := mAdd S 7 w 0 0 0) rfl h.1.1
  have el : quLast I q = eZ.1 := by rw [h.last, if_pos (by omega), h2]
  rw [el]
  refine h.two (op := 7) (A := w) (B := 0) (C := 0) hs hn h51 (Or.inr rfl) ⟨by decide, fun zZ => absurd zZ (by decide), fun _ zZ => absurd zZ (by decide), fun zZ => absurd zZ (by decide), fun zZ => absurd zZ (by decide), fun zZ => absurd zZ (by decide), fun _ => ⟨eZ, d, restZ, h1, by omega⟩⟩ rfl (fun p hp h100 => funext (fun k => up2_o _ _ _ _ h100)) (fun k hk => up2_k _ _ _ _ hk) (up2_eq (mAdd S 7 w 0 0 0) 100 51 (S 100 51 - 1)) (fun k => ?_) (fun e' r he' => ?_)
  · show up2 (mAdd S 7 w 0 0 0) 100 51 (S 100 51 - 1) 254 k = _
    rw [up2_o _ _ _ _ (by decide), mZ.1 254 (by decide) (by omega)]
    by_cases zZ : k = S 100 51 - 1 - 1
    · rw [if_pos zZ, zZ, show S 100 51 - 1 - 1 = S 100 51 - 2 by omega, h3]; exact he
    · rw [if_neg zZ]
  · rw [h1, ws1_c rfl] at he'
    cases he'; rfl
theorem join_cd (h : TrR I S q n) (hs : SSch S) : (cd_Model_join S w c o = 1 ∧ ¬ ((2 ≤ I q 7 ∧ I q 0 < 12) ∧ (w = 3 ∨ w = 4 ∨ ((w ≠ 3 ∧ w ≠ 4) ∧ quEarl I q + quLast I q ≤ 10)))) ∨ (((2 ≤ I q 7 ∧ I q 0 < 12) ∧ (w = 3 ∨ w = 4 ∨ ((w ≠ 3 ∧ w ≠ 4) ∧ quEarl I q + quLast I q ≤ 10))) ∧ ((cd_Model_join S w c o = 2 ∧ ¬ ((0 ≤ c ∧ c < quEarl I q) ∧ 0 ≤ o ∧ o < quLast I q)) ∨ (((0 ≤ c ∧ c < quEarl I q) ∧ 0 ≤ o ∧ o < quLast I q) ∧ ((cd_Model_join S w c o = 3 ∧ ¬ (0 ≤ w ∧ w ≤ 4)) ∨ (cd_Model_join S w c o = 0 ∧ (0 ≤ w ∧ w ≤ 4)))))) := by
  obtain ⟨-, bZ, -, n12⟩ := h.qub hs
  obtain ⟨a1Z, a2, a3, a4⟩ := h.1
  have o1 : 1 < S 100 51 → mOne S = quEarl I q ∧ mTwo S = quLast I q := fun zZ => by
    unfold mOne mTwo
    rw [h.earl, h.last, if_pos zZ, if_pos zZ, if_pos (show 0 < S 100 51 by omega)]
    exact ⟨rfl, rfl⟩
  have kZ : ¬ (S 100 51 < 2 ∨ bI (S 100 52 = 12) ≠ 0 ∨ (10 < mOne S + mTwo S ∧ w ≠ 3 ∧ w ≠ 4)) ↔ ((2 ≤ I q 7 ∧ I q 0 < 12) ∧ (w = 3 ∨ w = 4 ∨ ((w ≠ 3 ∧ w ≠ 4) ∧ quEarl I q + quLast I q ≤ 10))) := by
    rw [bNe]
    constructor
    · intro zZ
      have z1 : ¬ (S 100 51 < 2) := fun y => zZ (Or.inl y)
      obtain ⟨p1Z, p2Z⟩ := o1 (by omega)
      rw [p1Z, p2Z] at zZ
      refine ⟨⟨by omega, by omega⟩, by omega⟩
    · intro zZ
      obtain ⟨p1Z, p2Z⟩ := o1 (by omega)
      rw [p1Z, p2Z]
      omega
  unfold cd_Model_join
  by_cases eZ : (2 ≤ I q 7 ∧ I q 0 < 12) ∧ (w = 3 ∨ w = 4 ∨ ((w ≠ 3 ∧ w ≠ 4) ∧ quEarl I q + quLast I q ≤ 10))
  · rw [if_neg (kZ.mpr eZ)]
    refine Or.inr ⟨eZ, ?_⟩
    obtain ⟨p1Z, p2Z⟩ := o1 (by have := eZ.1; omega)
    rw [p1Z, p2Z]
    have cE : (bI (0 ≤ c ∧ c ≤ quEarl I q - 1) = 0 ∨ bI (0 ≤ o ∧ o ≤ quLast I q - 1) = 0) ↔ ¬ ((0 ≤ c ∧ c < quEarl I q) ∧ 0 ≤ o ∧ o < quLast I q) := by
      rw [bEq, bEq]
      omega
    by_cases fZ : (0 ≤ c ∧ c < quEarl I q) ∧ 0 ≤ o ∧ o < quLast I q
    · rw [if_neg (fun zZ => cE.mp zZ fZ)]
      refine Or.inr ⟨fZ, ?_⟩
      by_cases gZ : 0 ≤ w ∧ w ≤ 4
      · rw [if_pos (bNe.mpr gZ)]
        exact Or.inr ⟨rfl, gZ⟩
      · rw [if_neg (fun zZ => gZ (bNe.mp zZ))]
        exact Or.inl ⟨rfl, gZ⟩
    · rw [if_pos (cE.mpr fZ)]
      exact Or.inl ⟨rfl, fZ⟩
  · rw [if_pos (Classical.byContradiction (fun zZ => eZ (kZ.mp zZ)))]
    exact Or.inl ⟨rfl, eZ⟩
theorem TrR.join {x : Int} (h : TrR I S q n) (hs : SSch S) (hn : n < 12) (h51 : 1 < S 100 51) (hw : w = 3 ∨ w = 4 ∨ ((w ≠ 3 ∧ w ≠ 4) ∧ quEarl I q + quLast I q ≤ 10)) (hc : 0 ≤ c ∧ c < quEarl I q) (ho : 0 ≤ o ∧ o < quLast I q) (hx : x = if 2 < w then quEarl I q else quEarl I q + quLast I q) : TrR (quTwo I q 4 x w c o) (f_Model_join w c o S).1 q (n + 1) ∧ quTwo I q 4 x w c o q 7 = (f_Model_join w c o S).2 := by
  obtain ⟨eZ, d, restZ, h1, h2, h3⟩ := h.top2 hs h51
  have mZ := mAddX (S := S) (T := mAdd S 4 w c o 0) rfl h.1.1
  have el : quLast I q = eZ.1 := by rw [h.last, if_pos (by omega), h2]
  have er : quEarl I q = d.1 := by rw [h.earl, if_pos h51, h3]
  have o1 : mOne S = d.1 := by unfold mOne; rw [if_pos h51, h3]
  have o2 : mTwo S = eZ.1 := by unfold mTwo; rw [if_pos h51, h2]
  rw [el, er] at hw hx
  rw [el] at ho
  rw [er] at hc
  have ef : f_Model_join w c o S = (up2 (up2 (mAdd S 4 w c o 0) 100 51 (S 100 51 - 1)) 254 (S 100 51 - 1 - 1) x, S 100 51 - 1) := by
    unfold f_Model_join
    rw [o1, o2, hx]
  rw [ef]
  have j1 : ∀ k, k ≠ 51 → up2 (up2 (mAdd S 4 w c o 0) 100 51 (S 100 51 - 1)) 254 (S 100 51 - 1 - 1) x 100 k = mAdd S 4 w c o 0 100 k := fun k hk => (up2_o _ _ _ _ (by decide)).trans (up2_k _ _ _ _ hk)
  have j2 : up2 (up2 (mAdd S 4 w c o 0) 100 51 (S 100 51 - 1)) 254 (S 100 51 - 1 - 1) x 100 51 = S 100 51 - 1 := (up2_o _ _ _ _ (by decide)).trans (up2_eq _ _ _ _)
  refine h.two (op := 4) (A := w) (B := c) (C := o) hs hn h51 (Or.inl rfl) ⟨by decide, fun zZ => absurd zZ (by decide), fun _ zZ => absurd zZ (by decide), fun _ => ⟨eZ, d, restZ, h1, fun zZ => by omega, hc, ho⟩, fun zZ => absurd zZ (by decide), fun zZ => absurd zZ (by decide), fun zZ => absurd zZ (by decide)⟩ rfl (fun p hp h100 => funext (fun k => (up2_o _ _ _ _ hp).trans (up2_o _ _ _ _ h100))) j1 j2 (fun k => ?_) (fun e' r he' => ?_)
  · show up2 (up2 (mAdd S 4 w c o 0) 100 51 (S 100 51 - 1)) 254 (S 100 51 - 1 - 1) x 254 k = _
    rw [up2_if, up2_o _ _ _ _ (by decide), mZ.1 254 (by decide) (by omega)]
  · rw [h1, ws1_j rfl] at he'
    cases he'
    show x = (((if 2 < w then d.1 else d.1 + eZ.1 : Nat)) : Int)
    rw [hx]
    by_cases zZ : 2 < w
    · rw [if_pos zZ, if_pos zZ]
    · rw [if_neg zZ, if_neg zZ]; omega
end
