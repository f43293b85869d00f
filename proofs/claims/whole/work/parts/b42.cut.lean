/-! a crash: the log is cut, and all that runs is ended -/
section
variable {I S I' S' : IT} {n N g x : Nat} {lv mv : Nat → Nat} {q : Int}
theorem mCr1_at : ∀ m : Nat, (∀ j : Int, mCr1 m S 221 j = if (0 ≤ j ∧ j < m) ∧ S 221 j < 2 then 3 else S 221 j) ∧ (∀ j : Int, mCr1 m S 225 j = if (0 ≤ j ∧ j < m) ∧ S 221 j < 2 then -1 else S 225 j) ∧ ∀ p : Int, mCr1 m S 226 p = if bI (∃ j : Nat, j < m ∧ S 221 j < 2 ∧ S 223 j = p) = 1 then 0 else S 226 p := by
  intro m
  induction m with
  | zero => exact ⟨fun j => (if_neg (by omega)).symm, fun j => (if_neg (by omega)).symm, fun p => (if_neg (by rw [bI0 (fun ⟨j, hj, _⟩ => by omega)]; decide)).symm⟩
  | succ m ihZ =>
    obtain ⟨i1Z, i2Z, i3Z⟩ := ihZ
    have em : mCr1 m S 221 m = S 221 m := by rw [i1Z, if_neg (by omega)]
    have e3Z : mCr1 m S 223 m = S 223 m := mCr1_o m 223 m (by decide) (by decide) (by decide)
    by_cases hZ : S 221 m < 2
    · rw [← mCr1_yes (by rw [em]; exact hZ)]
      unfold mends
      refine ⟨fun j => ?_, fun j => ?_, fun p => ?_⟩
      · rw [up2_o _ _ _ _ (by decide), up2_o _ _ _ _ (by decide)]
        by_cases eZ : j = m
        · rw [eZ, up2_eq, if_pos ⟨by omega, hZ⟩]
        · rw [up2_k _ _ _ _ eZ, i1Z]
          by_cases cZ : (0 ≤ j ∧ j < m) ∧ S 221 j < 2
          · rw [if_pos cZ, if_pos ⟨by omega, cZ.2⟩]
          · rw [if_neg cZ, if_neg (fun z => cZ ⟨by omega, z.2⟩)]
      · rw [up2_o _ _ _ _ (by decide)]
        by_cases eZ : j = m
        · rw [eZ, up2_eq, if_pos ⟨by omega, hZ⟩]
        · rw [up2_k _ _ _ _ eZ, up2_o _ _ _ _ (by decide), i2Z]
          by_cases cZ : (0 ≤ j ∧ j < m) ∧ S 221 j < 2
          · rw [if_pos cZ, if_pos ⟨by omega, cZ.2⟩]
          · rw [if_neg cZ, if_neg (fun z => cZ ⟨by omega, z.2⟩)]
      · rw [e3Z]
        by_cases eZ : p = S 223 m
        · rw [eZ, up2_eq, if_pos (bI1 ⟨m, by omega, hZ, rfl⟩)]
        · rw [up2_k _ _ _ _ eZ, up2_o _ _ _ _ (by decide), up2_o _ _ _ _ (by decide), i3Z]
          have : (∃ j : Nat, j < m ∧ S 221 j < 2 ∧ S 223 j = p) ↔ ∃ j : Nat, j < m + 1 ∧ S 221 j < 2 ∧ S 223 j = p := ⟨fun ⟨j, a, b⟩ => ⟨j, by omega, b⟩, fun ⟨j, a, b, cZ⟩ => by
            by_cases ej : j = m
            · rw [ej] at cZ; exact absurd cZ.symm eZ
            · exact ⟨j, by omega, b, cZ⟩⟩
          rw [bIc this]
    · rw [← mCr1_no (by rw [em]; exact hZ)]
      refine ⟨fun j => ?_, fun j => ?_, fun p => ?_⟩
      · rw [i1Z]
        by_cases cZ : (0 ≤ j ∧ j < m) ∧ S 221 j < 2
        · rw [if_pos cZ, if_pos ⟨by omega, cZ.2⟩]
        · rw [if_neg cZ, if_neg (fun z => cZ ⟨by
            by_cases ej : j = m
            · rw [ej] at z; exact absurd z.2 hZ
            · omega, z.2⟩)]
      · rw [i2Z]
        by_cases cZ : (0 ≤ j ∧ j < m) ∧ S 221 j < 2
        · rw [if_pos cZ, if_pos ⟨by omega, cZ.2⟩]
        · rw [if_neg cZ, if_neg (fun z => cZ ⟨by
            by_cases ej : j = m
            · rw [ej] at z; exact absurd z.2 hZ
            · omega, z.2⟩)]
      · rw [i3Z]
        have : (∃ j : Nat, j < m ∧ S 221 j < 2 ∧ S 223 j = p) ↔ ∃ j : Nat, j < m + 1 ∧ S 221 j < 2 ∧ S 223 j = p := ⟨fun ⟨j, a, b⟩ => ⟨j, by omega, b⟩, fun ⟨j, a, b, cZ⟩ => by
          by_cases ej : j = m
          · rw [ej] at b; exact absurd b hZ
          · exact ⟨j, by omega, b, cZ⟩⟩
        rw [bIc this]
/-- WRITE records of what is committed lie before what is flushed -/
theorem com_before (h : ER I S n N g lv mv q) (hcm : ∀ r, 0 ≤ r → r < (N : Int) → S 246 r = 1 → r < S 100 45) {j : Nat} {r t y : Int} (hj : j < n) (h2 : S 221 j = 2) (hw : wrR S r j t y) : r < S 100 45 := by
  obtain ⟨cZ, c0Z, c1Z, c2Z, c3Z⟩ := (h.lo.2 j hj).mp h2
  have := hcm cZ c0Z c1Z c2Z
  refine Classical.byContradiction (fun z => ?_)
  obtain ⟨w0Z, w1Z, w2Z, w3Z, -⟩ := hw
  rw [h.cnt.2.1] at w1Z
  exact h.le cZ r c0Z (by omega) w1Z (Or.inl c2Z) w2Z (w3Z.trans c3Z.symm)
theorem ER.cut (h : ER I S n N g lv mv q) (hl : ∀ j, j < n → lv j < 15 ∧ mv j < 15) (hg : g < 10) (hx : S 100 45 ≤ x ∧ x ≤ N) (hcm : ∀ r, 0 ≤ r → r < (N : Int) → S 246 r = 1 → r < S 100 45)
    (hS : ∀ o k, o ≠ 221 → o ≠ 225 → o ≠ 226 → (o ≠ 100 ∨ k ≠ 44) → S' o k = S o k) (h44 : S' 100 44 = x)
    (h221 : ∀ j : Nat, j < n → S' 221 j = if S 221 j < 2 then 3 else S 221 j) (h225 : ∀ j : Nat, j < n → S' 225 j = if S 221 j < 2 then -1 else S 225 j) (h225' : ∀ y, S' 225 y = S 225 y ∨ S' 225 y = -1) (h226 : ∀ p, 0 ≤ p → p < 4 → S' 226 p = 0)
    (hI : ∀ o, o ≠ 1069 → o ≠ 1192 → (∀ j, j < n → o ≠ tX j) → I' o = I o) (hxk : ∀ j, j < n → ∀ k, k ≠ 4 → k ≠ 6 → I' (tX j) k = I (tX j) k) (h4 : ∀ j, j < n → I' (tX j) 4 = S' 221 j ∧ I' (tX j) 6 = S' 225 j)
    (hw : ∀ z, 0 ≤ z → z < 12006 → I' 1069 z = -1) (hL : I' 1192 0 = x ∧ I' 1192 1 = I 1192 1) : ER I' S' n x g lv mv q := by
  have n60 := h.cnt.2.2.1
  have so : ∀ o, o ≠ 221 → o ≠ 225 → o ≠ 226 → o ≠ 100 → S' o = S o := fun o aZ bZ cZ dZZ => funext (fun k => hS o k aZ bZ cZ (Or.inl dZZ))
  have s1Z : ∀ k, k ≠ 44 → S' 100 k = S 100 k := fun k hk => hS 100 k (by decide) (by decide) (by decide) (Or.inr hk)
  have ee : ∀ o k, (200 < o ∧ o < 214) ∨ (o = 100 ∧ (k = 0 ∨ k = 8)) → S' o k = S o k := fun o k hk => hS o k (by omega) (by omega) (by omega) (by omega)
  have tne : ∀ o, (o < 2000 ∨ 10000 ≤ o) → ∀ j, j < n → o ≠ tX j := fun o ho j hj => by unfold tX; omega
  have io : ∀ o, (o < 2000 ∨ 10000 ≤ o) → o ≠ 1069 → o ≠ 1192 → I' o = I o := fun o aZ bZ cZ => hI o bZ cZ (tne o aZ)
  have itx : ∀ j, j < n → ∀ aZ, 0 < aZ → aZ < 128 → I' (tX j + aZ) = I (tX j + aZ) := fun j hj aZ a0 ha => hI _ (by unfold tX; omega) (by unfold tX; omega) (fun k hk => by unfold tX; omega)
  have phZ : ∀ j : Nat, j < n → S' 221 j = 2 ∨ S' 221 j = 3 := fun j hj => by
    rw [h221 j hj]
    have := (h.ph j hj).1
    split <;> omega
  have c2Z : ∀ j : Nat, j < n → (S' 221 j = 2 ↔ S 221 j = 2) := fun j hj => by
    rw [h221 j hj]
    split <;> omega
  have hno : ∀ j, ¬ opS S' n j := fun j hj => by
    have := phZ j hj.1
    have := hj.2
    omega
  have rdZ : ∀ j t y, mRead S' j t y ↔ mRead S j t y := fun j t y => by unfold mRead; rw [so 233 (by decide) (by decide) (by decide) (by decide), so 234 (by decide) (by decide) (by decide) (by decide), so 235 (by decide) (by decide) (by decide) (by decide), so 236 (by decide) (by decide) (by decide) (by decide)]
  have e246 := so 246 (by decide) (by decide) (by decide) (by decide)
  have e247 := so 247 (by decide) (by decide) (by decide) (by decide)
  have e248 := so 248 (by decide) (by decide) (by decide) (by decide)
  have e249 := so 249 (by decide) (by decide) (by decide) (by decide)
  have wrZ : ∀ r j t y, wrR S' r j t y ↔ wrR S r j t y ∧ r < x := fun r j t y => by
    unfold wrR
    rw [e246, e247, e248, e249, h44, h.cnt.2.1]
    constructor
    · rintro ⟨aZ, bZ, cZ⟩; exact ⟨⟨aZ, by omega, cZ⟩, bZ⟩
    · rintro ⟨⟨aZ, bZ, cZ⟩, dZZ⟩; exact ⟨aZ, dZZ, cZ⟩
  have cb : ∀ {j : Nat} {r t y : Int}, j < n → S 221 j = 2 → wrR S r j t y → r < x := fun hj h2 hw => by have := com_before h hcm hj h2 hw; omega
  refine ⟨⟨(h.sch.1.of (fun o ho => io o (by omega) (by omega) (by omega))).ofS ee, h.sch.2.of ee⟩, h.mb.of (s1Z _ (by decide)) (s1Z _ (by decide)) (s1Z _ (by decide)) (fun k => ee 201 k (by omega)) (fun k => ee 202 k (by omega)) (fun k => ee 206 k (by omega)) (fun k => ee 211 k (by omega)) (fun k => by rw [so 214 (by decide) (by decide) (by decide) (by decide)]; exact h.mb.row k) (fun k => by rw [so 223 (by decide) (by decide) (by decide) (by decide)]) (fun k => by rw [so 236 (by decide) (by decide) (by decide) (by decide)]; exact h.mb.who k), ⟨(s1Z 19 (by decide)).trans h.cnt.1, h44, n60, by have := h.cnt.2.2.2; omega⟩, fun j hj => ?_, fun j hj => ?_, ?_, ?_, fun j hj => absurd hj (hno j), ?_, ?_, ⟨⟨hL.1, by rw [hL.2, s1Z 45 (by decide)]; exact h.lg.1.2⟩, fun r hr => ?_⟩, ?_, ?_, ?_, fun j hj => absurd hj (hno j), ⟨fun z z0 z1 => Or.inl (hw z z0 z1), fun j hj => absurd hj (hno j)⟩, fun j hj => absurd hj (hno j), fun j hj => absurd hj (hno j), ?_, ?_, fun j hj h1 => absurd (phZ j hj) (by omega)⟩
  · obtain ⟨aZ, r⟩ := h.tx j hj
    have l15 := (hl j hj).1
    refine ⟨?_, (r.ofI (hxk j hj 13 (by decide) (by decide)) (hxk j hj 14 (by decide) (by decide)) (by rw [Nat.add_assoc]; exact itx j hj _ (by omega) (by omega)) (by rw [Nat.add_assoc]; exact itx j hj _ (by omega) (by omega))).ofS (fun t y _ _ => ⟨rdZ _ t y, by rw [so 236 (by decide) (by decide) (by decide) (by decide)]⟩)⟩
    rw [hxk j hj 0 (by decide) (by decide), hxk j hj 1 (by decide) (by decide), hxk j hj 2 (by decide) (by decide), (h4 j hj).1, hxk j hj 5 (by decide) (by decide), (h4 j hj).2, so 220 (by decide) (by decide) (by decide) (by decide), so 224 (by decide) (by decide) (by decide) (by decide), so 222 (by decide) (by decide) (by decide) (by decide)]
    exact ⟨aZ.1, aZ.2.1, aZ.2.2.1, rfl, aZ.2.2.2.2.1, rfl⟩
  · have p := phZ j hj
    refine ⟨by omega, fun z => by omega, fun _ => ?_⟩
    rw [h225 j hj]
    by_cases cZ : S 221 j < 2
    · exact if_pos cZ
    · rw [if_neg cZ]; exact (h.ph j hj).2.2 (by omega)
  · exact h.ac.cut h225'
  · refine ⟨fun aZ bZ ha => absurd ha (hno aZ), fun p p0 p1Z => ?_⟩
    rw [h226 p p0 p1Z]
    exact ⟨fun z => absurd rfl z, fun ⟨j, hj, _⟩ => absurd hj (hno j)⟩
  · obtain ⟨⟨a1Z, a2⟩, a3, a4⟩ := h.st
    have e1161 := io 1161 (by omega) (by decide) (by decide)
    have e214 : ∀ k, S' 214 k = S 214 k := fun k => by rw [so 214 (by decide) (by decide) (by decide) (by decide)]
    have e215 : ∀ k, S' 215 k = S 215 k := fun k => by rw [so 215 (by decide) (by decide) (by decide) (by decide)]
    exact ⟨⟨(a1Z.fr e1161).ofS e214 e215, a2.fr e1161⟩, a3.of e214 e215, a4.of (fun o ho => so o (by omega) (by omega) (by omega) (by omega))⟩
  · obtain ⟨⟨p1Z, p2Z, p3Z⟩, p4Z, p5Z, p6Z, p7Z⟩ := h.sp
    rw [io 1070 (by omega) (by decide) (by decide), io 1071 (by omega) (by decide) (by decide), io 1064 (by omega) (by decide) (by decide), so 217 (by decide) (by decide) (by decide) (by decide), so 218 (by decide) (by decide) (by decide) (by decide), so 224 (by decide) (by decide) (by decide) (by decide), s1Z 16 (by decide), s1Z 45 (by decide)]
    exact ⟨⟨p1Z, p2Z, p3Z⟩, ⟨p4Z.1, p4Z.2.1, hx.1⟩, p5Z, p6Z, p7Z⟩
  · have := h.lg.2 r (by omega)
    unfold lgF at *
    rw [io (12000 + g) (by omega) (by omega) (by omega), e246, e247, e248, e249]
    exact this
  · refine ⟨fun r r0 r1 => ?_, fun r hr => ?_⟩
    · rw [e246, e247]; exact h.lr.1 r r0 (by omega)
    · rw [e246] at hr
      rw [e248, e249]; exact h.lr.2 r hr
  · refine ⟨fun j hj => absurd hj (hno j), fun j hj => ?_⟩
    rw [e246, e247]
    refine (c2Z j hj).trans ((h.lo.2 j hj).trans ⟨fun ⟨r, r0, r1, aZ, bZ⟩ => ⟨r, r0, by have := hcm r r0 r1 aZ; omega, aZ, bZ⟩, fun ⟨r, r0, r1, aZ, bZ⟩ => ⟨r, r0, by omega, aZ, bZ⟩⟩)
  · intro r p r0 hrp p1Z hr hp
    rw [e246] at hr hp
    rw [e247]
    exact h.le r p r0 hrp (by omega) hr hp
  · obtain ⟨aZ, bZ⟩ := h.v2
    have e1161 := io 1161 (by omega) (by decide) (by decide)
    have elg : I' (12000 + g) = I (12000 + g) := io (12000 + g) (by omega) (by omega) (by omega)
    refine ⟨fun j r t y hj h2 hw' hlast cZ c0 c1 => ?_, fun t y t0 t1 hn => ?_⟩
    · rw [c2Z j hj] at h2
      have hw2 := ((wrZ r j t y).mp hw').1
      have eZ := aZ j r t y hj h2 hw2 (fun p k hp hk hk2 z => hlast p k hp hk ((c2Z k hk).mpr hk2) ((wrZ p k t y).mpr ⟨z, cb hk hk2 z⟩)) cZ c0 c1
      unfold lgF rwCell rwFind rwF at *
      rw [elg, e1161]
      exact eZ
    · have eZ := bZ t y t0 t1 (fun p k hk hk2 z => hn p k hk ((c2Z k hk).mpr hk2) ((wrZ p k t y).mpr ⟨z, cb hk hk2 z⟩))
      unfold rwFind rwF at *
      rw [e1161]
      exact eZ
  · rw [so 233 (by decide) (by decide) (by decide) (by decide), so 234 (by decide) (by decide) (by decide) (by decide)]
    exact h.rd
end
