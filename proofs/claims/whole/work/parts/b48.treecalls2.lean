/-! one building call after another -/
section
variable {I S I' S' : IT} {q n : Nat} {t c w v o d nt s : Int}
theorem TrR.n52 (h : TrR I S q n) : S 100 52 = n ∧ I q 0 = n ∧ I q 1 = S 100 55 ∧ I q 7 = S 100 51 := h.1
/-- enough results and a free place -/
theorem TrR.tk (h : TrR I S q n) (k : Int) : (k ≤ I q 7 ∧ I q 0 < 12) ↔ (k ≤ S 100 51 ∧ n < 12) := by
  obtain ⟨a1Z, a2, a3, a4⟩ := h.1
  rw [a4, a2]
  constructor
  · intro w; exact ⟨w.1, by omega⟩
  · intro w; exact ⟨w.1, by omega⟩
theorem TrR.tk1 (h : TrR I S q n) (hs : SSch S) : ¬ (S 100 51 = 0 ∨ bI (S 100 52 = 12) ≠ 0) ↔ (1 ≤ I q 7 ∧ I q 0 < 12) := by
  obtain ⟨-, bZ, -, n12⟩ := h.qub hs
  rw [h.tk, bNe, h.1.1]
  constructor
  · intro w
    exact ⟨by omega, by omega⟩
  · intro w zZ
    rcases zZ with zZ | zZ <;> omega
theorem okB : (v = -2147483648 ∨ bI (-1000 ≤ v ∧ v ≤ 1000) ≠ 0) ↔ okV v := by rw [bNe]; exact Iff.rfl
-- a table is read
theorem scan_cd (h : TrR I S q n) (hs : SSch S) (hR : RSch I S) : (cd_Model_scan S t = 1 ∧ ¬ (0 ≤ t ∧ t < I 1032 0)) ∨ ((0 ≤ t ∧ t < I 1032 0) ∧ ((cd_Model_scan S t = 2 ∧ ¬ (I q 7 < 6 ∧ I q 0 < 12 ∧ I q 1 < 3)) ∨ (cd_Model_scan S t = 0 ∧ (I q 7 < 6 ∧ I q 0 < 12 ∧ I q 1 < 3)))) := by
  obtain ⟨a1Z, a2, a3, a4⟩ := h.1
  obtain ⟨-, bZ, c, n12⟩ := h.qub hs
  unfold cd_Model_scan
  rw [hR.1]
  by_cases eZ : 0 ≤ t ∧ t < S 100 0
  · rw [if_neg (show ¬ (bI (0 ≤ t ∧ t < S 100 0) = 0) from fun zZ => bIe zZ eZ)]
    refine Or.inr ⟨eZ, ?_⟩
    by_cases fZ : I q 7 < 6 ∧ I q 0 < 12 ∧ I q 1 < 3
    · rw [if_neg]
      · exact Or.inr ⟨rfl, fZ⟩
      · rw [bNe]
        intro zZ
        rcases zZ with zZ | zZ | zZ <;> omega
    · rw [if_pos]
      · exact Or.inl ⟨rfl, fZ⟩
      · rw [bNe]
        omega
  · rw [bI0 eZ, if_pos rfl]
    exact Or.inl ⟨rfl, eZ⟩
theorem TrR.scan (h : TrR I S q n) (hs : SSch S) (hR : RSch I S) (ht : 0 ≤ t ∧ t < S 100 0) (hn : n < 12) (h3 : S 100 55 < 3) : TrR (quScan I q t (I 1034 t)) (f_Model_scan t S).1 q (n + 1) ∧ quScan I q t (I 1034 t) q 7 = (f_Model_scan t S).2 := by
  obtain ⟨a1Z, a2, a3, a4⟩ := h.1
  have h6 := hs.1.2
  have ew := (hR.2.1 t ht.1 (by omega)).1
  have w1Z := hs.2.1 t ht.1 ht.2
  obtain ⟨x0Z, x1Z, x3, x4Z, x5Z, x6, x7, x8⟩ := quX (I := I) (X := quSet (quPut I q 0 (I 1034 t) (-1) (-1)) q t 0 0 0) rfl a2
  generalize hTZ : up2 (up2 (up2 (up2 S 253 (S 100 51) (S 100 52)) 254 (S 100 51) (S 201 t)) 100 51 (S 100 51 + 1)) 100 55 (S 100 55 + 1) = T
  have t52 : T 100 52 = n := by rw [← hTZ, up2_k _ _ _ _ (by decide), up2_k _ _ _ _ (by decide), up2_o _ _ _ _ (by decide), up2_o _ _ _ _ (by decide)]; exact a1Z
  have tk : ∀ kZ, kZ ≠ 51 → kZ ≠ 55 → T 100 kZ = S 100 kZ := fun kZ h1 h2 => by rw [← hTZ, up2_k _ _ _ _ h2, up2_k _ _ _ _ h1, up2_o _ _ _ _ (by decide), up2_o _ _ _ _ (by decide)]
  have t51 : T 100 51 = S 100 51 + 1 := by rw [← hTZ, up2_k _ _ _ _ (by decide), up2_eq]
  have t55 : T 100 55 = S 100 55 + 1 := by rw [← hTZ, up2_eq]
  have t54 : ∀ kZ, T 254 kZ = if kZ = S 100 51 then S 201 t else S 254 kZ := fun kZ => by rw [← hTZ, up2_o _ _ _ _ (by decide), up2_o _ _ _ _ (by decide), up2_if, up2_o _ _ _ _ (by decide)]
  have toZ : ∀ o, o ≠ 253 → o ≠ 254 → o ≠ 100 → T o = S o := fun o h1 h2 h3 => funext (fun kZ => by rw [← hTZ, up2_o _ _ _ _ h3, up2_o _ _ _ _ h3, up2_o _ _ _ _ h2, up2_o _ _ _ _ h1])
  have ef : f_Model_scan t S = (mAdd T 0 t 0 0 0, S 100 51 + 1) := by rw [← hTZ]; rfl
  rw [ef]
  show TrR (quScan I q t (I 1034 t)) (mAdd T 0 t 0 0 0) q (n + 1) ∧ quScan I q t (I 1034 t) q 7 = S 100 51 + 1
  obtain ⟨m0Z, m1Z, m2Z, m3Z, m4Z, m5Z, m6Z, m7Z⟩ := mAddX (S := T) (T := mAdd T 0 t 0 0 0) rfl t52
  have i7Z : quScan I q t (I 1034 t) q 7 = S 100 51 + 1 := by
    unfold quScan
    rw [up2_k _ _ _ _ (by decide), up2_eq, a4]
  have io : ∀ o, o ≠ q + 9 → o ≠ q → quScan I q t (I 1034 t) o = quSet (quPut I q 0 (I 1034 t) (-1) (-1)) q t 0 0 0 o := fun o ho hq => funext (fun kZ => by unfold quScan; rw [up2_o _ _ _ _ hq, up2_o _ _ _ _ hq, up2_o _ _ _ _ ho])
  have d1Z : dOp 0 = 0 := by decide
  refine ⟨h.add (op := 0) (A := t) (B := 0) (C := 0) (C' := 0) (nt := 0) (W := I 1034 t) (F := -1) (G := -1) hs hn ⟨by decide, fun _ => ⟨ht, ?_⟩, fun z => absurd rfl z, fun z => absurd z (by decide), fun z => absurd z (by decide), fun z => absurd z (by decide), fun z => absurd z (by decide)⟩ (fun _ => rfl) (fun z => absurd z (by decide)) ⟨?_, ?_, ?_, ?_, ?_, ?_, ?_, ?_⟩ ⟨?_, ?_, ?_⟩ ⟨?_, ?_, ?_, ?_, ?_, ?_, ?_, ?_, ?_⟩ (fun eZ r he => ?_) ?_ ?_, i7Z⟩
  · have := h.2.2.2.1.2
    omega
  · intro kZ; rw [m0Z 201 (by decide) (by omega), toZ 201 (by decide) (by decide) (by decide)]
  · rw [m1Z 0 (by decide)]; exact tk 0 (by decide) (by decide)
  · exact m2Z
  · rw [← toZ 256 (by decide) (by decide) (by decide)]; exact m3Z
  · rw [← toZ 257 (by decide) (by decide) (by decide)]; exact m4Z
  · rw [← toZ 258 (by decide) (by decide) (by decide)]; exact m5Z
  · rw [← toZ 259 (by decide) (by decide) (by decide)]; exact m6Z
  · rw [← toZ 260 (by decide) (by decide) (by decide)]; exact m7Z
  · rw [m1Z 51 (by decide), t51, d1Z]; omega
  · rw [m1Z 55 (by decide), t55, if_pos rfl]
  · intro kZ
    rw [m0Z 254 (by decide) (by omega), t54, m1Z 51 (by decide), t51, ew, show S 100 51 + 1 - 1 = S 100 51 by omega]
  · have eZ : quScan I q t (I 1034 t) q 0 = quSet (quPut I q 0 (I 1034 t) (-1) (-1)) q t 0 0 0 q 0 := by
      unfold quScan
      rw [up2_k _ _ _ _ (by decide), up2_k _ _ _ _ (by decide), up2_o _ _ _ _ (by omega)]
    rw [eZ]; exact x0Z
  · have eZ : quScan I q t (I 1034 t) q 1 = I q 1 + 1 := by
      unfold quScan
      exact up2_eq _ _ _ _
    rw [eZ, m1Z 55 (by decide), t55, a3]
  · rw [i7Z, m1Z 51 (by decide), t51]
  · rw [io _ (by omega) (by omega)]; exact x3
  · rw [io _ (by omega) (by omega)]; exact x4Z
  · rw [io _ (by omega) (by omega)]; exact x5Z
  · rw [io _ (by omega) (by omega)]; exact x6
  · rw [io _ (by omega) (by omega)]; exact x7
  · intro kZ
    rw [m1Z 51 (by decide), t51]
    unfold quScan
    rw [up2_o _ _ _ _ (by omega), up2_o _ _ _ _ (by omega), up2_if, x8 _ (by omega), a4, a2, show S 100 51 + 1 - 1 = S 100 51 by omega]
  · rw [ws1_0 rfl] at he
    cases he
    show I 1034 t = (((S 201 t).toNat : Nat) : Int)
    rw [ew]; omega
  · rw [d1Z, if_pos rfl]
  · rw [d1Z, if_neg (by decide)]
-- a condition on the last result
theorem filter_cd (h : TrR I S q n) (hs : SSch S) : (cd_Model_filter S c w v nt = 1 ∧ ¬ (1 ≤ I q 7 ∧ I q 0 < 12)) ∨ ((1 ≤ I q 7 ∧ I q 0 < 12) ∧ ((cd_Model_filter S c w v nt = 2 ∧ ¬ (0 ≤ c ∧ c < quLast I q)) ∨ ((0 ≤ c ∧ c < quLast I q) ∧ ((cd_Model_filter S c w v nt = 3 ∧ ¬ ((0 ≤ w ∧ w ≤ 2) ∧ okV v)) ∨ (cd_Model_filter S c w v nt = 0 ∧ (0 ≤ w ∧ w ≤ 2) ∧ okV v))))) := by
  unfold cd_Model_filter
  by_cases eZ : 1 ≤ I q 7 ∧ I q 0 < 12
  · have pZ := ((h.tk 1).mp eZ).1
    rw [if_neg ((h.tk1 hs).mpr eZ)]
    refine Or.inr ⟨eZ, ?_⟩
    by_cases fZ : 0 ≤ c ∧ c < quLast I q
    · rw [bI1 ((h.ofl (by omega) c).mpr fZ), if_neg (by decide)]
      refine Or.inr ⟨fZ, ?_⟩
      by_cases gZ : (0 ≤ w ∧ w ≤ 2) ∧ okV v
      · rw [if_pos ⟨bNe.mpr gZ.1, okB.mpr gZ.2⟩]
        exact Or.inr ⟨rfl, gZ⟩
      · rw [if_neg (fun z => gZ ⟨bNe.mp z.1, okB.mp z.2⟩)]
        exact Or.inl ⟨rfl, gZ⟩
    · rw [bI0 (fun z => fZ ((h.ofl (by omega) c).mp z)), if_pos rfl]
      exact Or.inl ⟨rfl, fZ⟩
  · rw [if_pos (Classical.byContradiction (fun z => eZ ((h.tk1 hs).mp z)))]
    exact Or.inl ⟨rfl, eZ⟩
theorem TrR.filter (h : TrR I S q n) (hs : SSch S) (hn : n < 12) (h51 : 0 < S 100 51) (hc : 0 ≤ c ∧ c < quLast I q) : TrR (quOne I q 1 (quLast I q) c w v nt) (f_Model_filter c w v nt S).1 q (n + 1) ∧ quOne I q 1 (quLast I q) c w v nt q 7 = (f_Model_filter c w v nt S).2 := by
  obtain ⟨eZ, restZ, h1, h2, -⟩ := h.top hs h51
  rw [h.last, if_pos h51, h2] at hc ⊢
  refine h.one (op := 1) (A := c) (B := w) (C := v) (C' := v) (nt := nt) hs hn h51 (by decide) ⟨by decide, fun zZ => absurd zZ (by decide), fun _ _ => ⟨eZ, restZ, h1, hc, fun zZ => absurd zZ (by decide), fun _ zZ => absurd rfl zZ⟩, fun zZ => absurd zZ (by decide), fun zZ => absurd zZ (by decide), fun zZ => absurd zZ (by decide), fun zZ => absurd zZ (by decide)⟩ (fun _ => rfl) (fun zZ => absurd zZ (by decide)) rfl (fun _ _ => rfl) (fun k => ?_) (fun e' r he => ?_)
  · show mAdd S 1 c w v nt 254 k = _
    rw [(mAddX (S := S) (T := mAdd S 1 c w v nt) rfl h.1.1).1 254 (by decide) (by omega)]
    by_cases zZ : k = S 100 51 - 1
    · rw [if_pos zZ, zZ, h2]
    · rw [if_neg zZ]
  · rw [h1, ws1_f (by decide) (by decide)] at he
    cases he; rfl
theorem filterColumns_cd (h : TrR I S q n) (hs : SSch S) : (cd_Model_filterColumns S c w o nt = 1 ∧ ¬ (1 ≤ I q 7 ∧ I q 0 < 12)) ∨ ((1 ≤ I q 7 ∧ I q 0 < 12) ∧ ((cd_Model_filterColumns S c w o nt = 2 ∧ ¬ ((0 ≤ c ∧ c < quLast I q) ∧ 0 ≤ o ∧ o < quLast I q)) ∨ (((0 ≤ c ∧ c < quLast I q) ∧ 0 ≤ o ∧ o < quLast I q) ∧ ((cd_Model_filterColumns S c w o nt = 3 ∧ ¬ (0 ≤ w ∧ w ≤ 2)) ∨ (cd_Model_filterColumns S c w o nt = 0 ∧ (0 ≤ w ∧ w ≤ 2)))))) := by
  unfold cd_Model_filterColumns
  by_cases eZ : 1 ≤ I q 7 ∧ I q 0 < 12
  · have pZ := ((h.tk 1).mp eZ).1
    rw [if_neg ((h.tk1 hs).mpr eZ)]
    refine Or.inr ⟨eZ, ?_⟩
    by_cases fZ : (0 ≤ c ∧ c < quLast I q) ∧ 0 ≤ o ∧ o < quLast I q
    · rw [if_neg (show ¬ (bI (mOfLast S c) = 0 ∨ bI (mOfLast S o) = 0) from fun z => z.elim (fun z => bIe z ((h.ofl (by omega) c).mpr fZ.1)) (fun z => bIe z ((h.ofl (by omega) o).mpr fZ.2)))]
      refine Or.inr ⟨fZ, ?_⟩
      by_cases gZ : 0 ≤ w ∧ w ≤ 2
      · rw [if_pos (bNe.mpr gZ)]
        exact Or.inr ⟨rfl, gZ⟩
      · rw [if_neg (fun z => gZ (bNe.mp z))]
        exact Or.inl ⟨rfl, gZ⟩
    · rw [if_pos (show bI (mOfLast S c) = 0 ∨ bI (mOfLast S o) = 0 from Classical.byContradiction (fun z => fZ ⟨(h.ofl (by omega) c).mp (bNe.mp (fun y => z (Or.inl y))), (h.ofl (by omega) o).mp (bNe.mp (fun y => z (Or.inr y)))⟩))]
      exact Or.inl ⟨rfl, fZ⟩
  · rw [if_pos (Classical.byContradiction (fun z => eZ ((h.tk1 hs).mp z)))]
    exact Or.inl ⟨rfl, eZ⟩
theorem TrR.filterColumns (h : TrR I S q n) (hs : SSch S) (hn : n < 12) (h51 : 0 < S 100 51) (hc : 0 ≤ c ∧ c < quLast I q) (ho : 0 ≤ o ∧ o < quLast I q) : TrR (quOne I q 2 (quLast I q) c w o nt) (f_Model_filterColumns c w o nt S).1 q (n + 1) ∧ quOne I q 2 (quLast I q) c w o nt q 7 = (f_Model_filterColumns c w o nt S).2 := by
  obtain ⟨eZ, restZ, h1, h2, -⟩ := h.top hs h51
  rw [h.last, if_pos h51, h2] at hc ho ⊢
  refine h.one (op := 2) (A := c) (B := w) (C := o) (C' := o) (nt := nt) hs hn h51 (by decide) ⟨by decide, fun zZ => absurd zZ (by decide), fun _ _ => ⟨eZ, restZ, h1, hc, fun zZ => absurd zZ (by decide), fun _ _ => ho⟩, fun zZ => absurd zZ (by decide), fun zZ => absurd zZ (by decide), fun zZ => absurd zZ (by decide), fun zZ => absurd zZ (by decide)⟩ (fun _ => rfl) (fun zZ => absurd zZ (by decide)) rfl (fun _ _ => rfl) (fun k => ?_) (fun e' r he => ?_)
  · show mAdd S 2 c w o nt 254 k = _
    rw [(mAddX (S := S) (T := mAdd S 2 c w o nt) rfl h.1.1).1 254 (by decide) (by omega)]
    by_cases zZ : k = S 100 51 - 1
    · rw [if_pos zZ, zZ, h2]
    · rw [if_neg zZ]
  · rw [h1, ws1_f (by decide) (by decide)] at he
    cases he; rfl
theorem ratio_cd (h : TrR I S q n) (hs : SSch S) : (cd_Model_ratio S c o v = 1 ∧ ¬ (1 ≤ I q 7 ∧ I q 0 < 12)) ∨ ((1 ≤ I q 7 ∧ I q 0 < 12) ∧ ((cd_Model_ratio S c o v = 2 ∧ ¬ ((0 ≤ c ∧ c < quLast I q) ∧ 0 ≤ o ∧ o < quLast I q)) ∨ (((0 ≤ c ∧ c < quLast I q) ∧ 0 ≤ o ∧ o < quLast I q) ∧ ((cd_Model_ratio S c o v = 3 ∧ ¬ (-1000 ≤ v ∧ v ≤ 1000)) ∨ (cd_Model_ratio S c o v = 0 ∧ (-1000 ≤ v ∧ v ≤ 1000)))))) := by
  unfold cd_Model_ratio
  by_cases eZ : 1 ≤ I q 7 ∧ I q 0 < 12
  · have pZ := ((h.tk 1).mp eZ).1
    rw [if_neg ((h.tk1 hs).mpr eZ)]
    refine Or.inr ⟨eZ, ?_⟩
    by_cases fZ : (0 ≤ c ∧ c < quLast I q) ∧ 0 ≤ o ∧ o < quLast I q
    · rw [if_neg (show ¬ (bI (mOfLast S c) = 0 ∨ bI (mOfLast S o) = 0) from fun z => z.elim (fun z => bIe z ((h.ofl (by omega) c).mpr fZ.1)) (fun z => bIe z ((h.ofl (by omega) o).mpr fZ.2)))]
      refine Or.inr ⟨fZ, ?_⟩
      by_cases gZ : -1000 ≤ v ∧ v ≤ 1000
      · rw [if_pos (bNe.mpr gZ)]
        exact Or.inr ⟨rfl, gZ⟩
      · rw [if_neg (fun z => gZ (bNe.mp z))]
        exact Or.inl ⟨rfl, gZ⟩
    · rw [if_pos (show bI (mOfLast S c) = 0 ∨ bI (mOfLast S o) = 0 from Classical.byContradiction (fun z => fZ ⟨(h.ofl (by omega) c).mp (bNe.mp (fun y => z (Or.inl y))), (h.ofl (by omega) o).mp (bNe.mp (fun y => z (Or.inr y)))⟩))]
      exact Or.inl ⟨rfl, fZ⟩
  · rw [if_pos (Classical.byContradiction (fun z => eZ ((h.tk1 hs).mp z)))]
    exact Or.inl ⟨rfl, eZ⟩
theorem TrR.ratio (h : TrR I S q n) (hs : SSch S) (hn : n < 12) (h51 : 0 < S 100 51) (hc : 0 ≤ c ∧ c < quLast I q) (ho : 0 ≤ o ∧ o < quLast I q) : TrR (quOne I q 3 (quLast I q) c o v 0) (f_Model_ratio c o v S).1 q (n + 1) ∧ quOne I q 3 (quLast I q) c o v 0 q 7 = (f_Model_ratio c o v S).2 := by
  obtain ⟨eZ, restZ, h1, h2, -⟩ := h.top hs h51
  rw [h.last, if_pos h51, h2] at hc ho ⊢
  refine h.one (op := 3) (A := c) (B := o) (C := v) (C' := v) (nt := 0) hs hn h51 (by decide) ⟨by decide, fun zZ => absurd zZ (by decide), fun _ _ => ⟨eZ, restZ, h1, hc, fun _ => ho, fun zZ => absurd rfl zZ⟩, fun zZ => absurd zZ (by decide), fun zZ => absurd zZ (by decide), fun zZ => absurd zZ (by decide), fun zZ => absurd zZ (by decide)⟩ (fun _ => rfl) (fun zZ => absurd zZ (by decide)) rfl (fun _ _ => rfl) (fun k => ?_) (fun e' r he => ?_)
  · show mAdd S 3 c o v 0 254 k = _
    rw [(mAddX (S := S) (T := mAdd S 3 c o v 0) rfl h.1.1).1 254 (by decide) (by omega)]
    by_cases zZ : k = S 100 51 - 1
    · rw [if_pos zZ, zZ, h2]
    · rw [if_neg zZ]
  · rw [h1, ws1_f (by decide) (by decide)] at he
    cases he; rfl
end
