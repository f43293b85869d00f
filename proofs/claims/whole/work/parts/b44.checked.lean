/-! a CHECK is noted, the log is flushed -/
section
variable {I S I' S' : IT} {n N M g g' : Nat} {lv mv : Nat → Nat} {q : Int}
theorem ER.checked (h : ER I S n N g lv mv q) (hl : ∀ j, j < n → lv j < 15 ∧ mv j < 15) (hg : g < 10) (hM : N ≤ M ∧ M ≤ 16384)
    (hS : ∀ o k, (o < 246 ∨ 249 < o) → (o ≠ 100 ∨ (k ≠ 44 ∧ k ≠ 45)) → S' o k = S o k) (h44 : S' 100 44 = M) (h45 : S 100 16 ≤ S' 100 45 ∧ S' 100 45 ≤ M)
    (hR : ∀ r : Int, ¬ ((N : Int) ≤ r ∧ r < M) → S' 246 r = S 246 r ∧ S' 247 r = S 247 r ∧ S' 248 r = S 248 r ∧ S' 249 r = S 249 r) (hnew : ∀ r : Int, (N : Int) ≤ r → r < M → S' 246 r = 4 ∧ S' 247 r = -1)
    (hI : ∀ o, ¬ nLg o → I' o = I o) (hI1 : I' 1192 0 = M ∧ I' 1192 1 = S' 100 45) (hlg : lgEq I' S' g' M) (hf : ∀ (r : Nat) f, r < N → 0 ≤ f → f < 8 → lgF I' g' r f = lgF I g r f) : ER I' S' n M g' lv mv q := by
  have n60 := h.cnt.2.2.1
  have so : ∀ o, (o < 246 ∨ 249 < o) → o ≠ 100 → S' o = S o := fun o aZ bZ => funext (fun k => hS o k aZ (Or.inl bZ))
  have s1Z : ∀ k, k ≠ 44 → k ≠ 45 → S' 100 k = S 100 k := fun k aZ bZ => hS 100 k (by omega) (Or.inr ⟨aZ, bZ⟩)
  have e221 := so 221 (by decide) (by decide)
  have e223 := so 223 (by decide) (by decide)
  have io : ∀ o, (o < 1192 ∨ (1192 < o ∧ o < 12000)) → I' o = I o := fun o ho => hI o (by unfold nLg; omega)
  have hop : ∀ j, opS S' n j ↔ opS S n j := fun j => by unfold opS; rw [e221]
  have ee : ∀ o k, (200 < o ∧ o < 214) ∨ (o = 100 ∧ (k = 0 ∨ k = 8)) → S' o k = S o k := fun o k hk => hS o k (by omega) (by omega)
  have wrZ : ∀ r j t y, wrR S' r j t y ↔ wrR S r j t y := fun r j t y => by
    unfold wrR
    rw [h44, h.cnt.2.1]
    constructor
    · rintro ⟨aZ, bZ, cZ, dZZ, eZ, f⟩
      by_cases zZ : r < N
      · obtain ⟨o1, o2, o3Z, o4Z⟩ := hR r (by omega)
        rw [o1] at cZ; rw [o2] at dZZ; rw [o3Z] at eZ; rw [o4Z] at f
        exact ⟨aZ, zZ, cZ, dZZ, eZ, f⟩
      · have := (hnew r (by omega) bZ).1
        omega
    · rintro ⟨aZ, bZ, cZ, dZZ, eZ, f⟩
      obtain ⟨o1, o2, o3Z, o4Z⟩ := hR r (by omega)
      exact ⟨aZ, by omega, o1.trans cZ, o2.trans dZZ, o3Z.trans eZ, o4Z.trans f⟩
  have rdZ : ∀ j t y, mRead S' j t y ↔ mRead S j t y := fun j t y => by unfold mRead; rw [so 233 (by decide) (by decide), so 234 (by decide) (by decide), so 235 (by decide) (by decide), so 236 (by decide) (by decide)]
  have itx : ∀ j, j < n → ∀ aZ, aZ < 128 → I' (tX j + aZ) = I (tX j + aZ) := fun j hj aZ ha => io _ (by unfold tX; omega)
  have itx0 : ∀ j, j < n → I' (tX j) = I (tX j) := fun j hj => itx j hj 0 (by decide)
  have wNZ : ∀ {r j t y : Int}, wrR S r j t y → r < N := fun zZ => by have := zZ.2.1; rw [h.cnt.2.1] at this; exact this
  have e214 : ∀ k, S' 214 k = S 214 k := fun k => by rw [so 214 (by decide) (by decide)]
  have e215 : ∀ k, S' 215 k = S 215 k := fun k => by rw [so 215 (by decide) (by decide)]
  have cSZ : ∀ o, (o = 202 ∨ o = 203 ∨ o = 204 ∨ o = 205 ∨ o = 214 ∨ o = 215) → S' o = S o := fun o ho => so o (by omega) (by omega)
  refine ⟨⟨(h.sch.1.of (fun o ho => io o (by omega))).ofS ee, h.sch.2.of ee⟩, h.mb.of (s1Z _ (by decide) (by decide)) (s1Z _ (by decide) (by decide)) (s1Z _ (by decide) (by decide)) (fun k => ee 201 k (by omega)) (fun k => ee 202 k (by omega)) (fun k => ee 206 k (by omega)) (fun k => ee 211 k (by omega)) (fun k => by rw [e214]; exact h.mb.row k) (fun k => by rw [e223]) (fun k => by rw [so 236 (by decide) (by decide)]; exact h.mb.who k), ⟨(s1Z 19 (by decide) (by decide)).trans h.cnt.1, h44, n60, hM.2⟩, fun j hj => ?_, ?_, ?_, ?_, fun j hj => ?_, ?_, ?_, ⟨hI1, hlg⟩, ?_, ?_, ?_, fun j hj r pZ t y k hrp aZ bZ => ?_, ?_, fun j hj => ?_, fun j hj r t y hw hlast cZ c0 c1 => ?_, ?_, ?_, fun j hj h1 => ?_⟩
  · obtain ⟨aZ, r⟩ := h.tx j hj
    have l15 := (hl j hj).1
    refine ⟨?_, (r.ofI (by rw [itx0 j hj]) (by rw [itx0 j hj]) (by rw [Nat.add_assoc]; exact itx j hj _ (by omega)) (by rw [Nat.add_assoc]; exact itx j hj _ (by omega))).ofS (fun t y _ _ => ⟨rdZ _ t y, by rw [so 236 (by decide) (by decide)]⟩)⟩
    rw [itx0 j hj, so 220 (by decide) (by decide), so 224 (by decide) (by decide), e221, so 222 (by decide) (by decide), so 225 (by decide) (by decide)]
    exact aZ
  · rw [e221, so 225 (by decide) (by decide)]; exact h.ph
  · exact h.ac.cut (fun y => Or.inl (by rw [so 225 (by decide) (by decide)]))
  · rw [e223, so 226 (by decide) (by decide)]
    refine ⟨fun aZ bZ ha hb => h.sl.1 aZ bZ ((hop aZ).mp ha) ((hop bZ).mp hb), fun pZ p0 p1Z => (h.sl.2 pZ p0 p1Z).trans ⟨fun ⟨j, hj, eZ⟩ => ⟨j, (hop j).mpr hj, eZ⟩, fun ⟨j, hj, eZ⟩ => ⟨j, (hop j).mp hj, eZ⟩⟩⟩
  · obtain ⟨⟨a1Z, a2⟩, a3, a4⟩ := h.own j ((hop j).mp hj)
    have e33Z := itx j hj.1 33 (by decide)
    rw [e223]
    exact ⟨⟨(a1Z.fr e33Z).ofS e214 e215, a2.fr e33Z⟩, a3.of e214 e215, a4.of cSZ⟩
  · obtain ⟨⟨a1Z, a2⟩, a3, a4⟩ := h.st
    have e33Z := io 1161 (by omega)
    exact ⟨⟨(a1Z.fr e33Z).ofS e214 e215, a2.fr e33Z⟩, a3.of e214 e215, a4.of cSZ⟩
  · obtain ⟨⟨p1Z, p2Z, p3Z⟩, p4Z, p5Z, p6Z, p7Z⟩ := h.sp
    rw [io 1070 (by omega), io 1071 (by omega), io 1064 (by omega), so 217 (by decide) (by decide), so 218 (by decide) (by decide), so 224 (by decide) (by decide), s1Z 16 (by decide) (by decide)]
    exact ⟨⟨p1Z, p2Z, p3Z⟩, ⟨p4Z.1, h45.1, h45.2⟩, p5Z, p6Z, p7Z⟩
  · refine ⟨fun r r0 r1 => ?_, fun r hr => ?_⟩
    · by_cases eZ : r < N
      · obtain ⟨o1, o2, -⟩ := hR r (by omega)
        rw [o1, o2]; exact h.lr.1 r r0 eZ
      · rw [(hnew r (by omega) r1).1]
        exact ⟨by omega, fun zZ => absurd rfl zZ⟩
    · by_cases eZ : (N : Int) ≤ r ∧ r < M
      · have := (hnew r eZ.1 eZ.2).1
        omega
      · obtain ⟨o1, -, o3Z, o4Z⟩ := hR r eZ
        rw [o1] at hr
        rw [o3Z, o4Z]; exact h.lr.2 r hr
  · refine ⟨fun j hj r r0 r1 hw => ?_, fun j hj => ?_⟩
    · by_cases eZ : r < N
      · obtain ⟨o1, o2, -⟩ := hR r (by omega)
        rw [o2] at hw
        rw [o1]; exact h.lo.1 j ((hop j).mp hj) r r0 eZ hw
      · exact Or.inr (hnew r (by omega) r1).1
    · rw [e221]
      refine (h.lo.2 j hj).trans ⟨fun ⟨r, r0, r1, aZ, bZ⟩ => ⟨r, r0, by omega, by rw [(hR r (by omega)).1]; exact aZ, by rw [(hR r (by omega)).2.1]; exact bZ⟩, fun ⟨r, r0, r1, aZ, bZ⟩ => ?_⟩
      by_cases eZ : r < N
      · exact ⟨r, r0, eZ, by rw [← (hR r (by omega)).1]; exact aZ, by rw [← (hR r (by omega)).2.1]; exact bZ⟩
      · have := (hnew r (by omega) r1).1
        omega
  · intro r pZ r0 hrp p1Z hr hp
    have pN : pZ < N := Classical.byContradiction (fun zZ => by have := (hnew pZ (by omega) p1Z).1; omega)
    rw [(hR pZ (by omega)).1] at hp
    rw [(hR r (by omega)).1] at hr
    rw [(hR pZ (by omega)).2.1, (hR r (by omega)).2.1]
    exact h.le r pZ r0 hrp pN hr hp
  · exact h.l3 j ((hop j).mp hj) r pZ t y k hrp ((wrZ _ _ _ _).mp aZ) ((wrZ _ _ _ _).mp bZ)
  · refine ⟨fun zZ z0 z1 => ?_, fun j hj t y t0 t1 y0 y1 => ?_⟩
    · rw [io 1069 (by omega)]
      exact (h.wr.1 zZ z0 z1).imp id (fun ⟨j, hj, eZ⟩ => ⟨j, (hop j).mpr hj, eZ⟩)
    · rw [io 1069 (by omega)]
      exact (h.wr.2 j ((hop j).mp hj) t y t0 t1 y0 y1).trans ⟨fun ⟨r, eZ⟩ => ⟨r, (wrZ _ _ _ _).mpr eZ⟩, fun ⟨r, eZ⟩ => ⟨r, (wrZ _ _ _ _).mp eZ⟩⟩
  · obtain ⟨aZ, bZ⟩ := h.fp j ((hop j).mp hj)
    have m15 := (hl j hj.1).2
    refine ⟨fun zZ z0 z1 => ?_, by rw [itx0 j hj.1]; omega⟩
    have : FpS I' j (mv j) zZ ↔ FpS I j (mv j) zZ := by
      unfold FpS
      rw [itx0 j hj.1, Nat.add_assoc, itx j hj.1 _ (by omega)]
    rw [this, io 1069 (by omega)]
    exact aZ zZ z0 z1
  · have hw' := (wrZ _ _ _ _).mp hw
    have rNZ := wNZ hw'
    rw [hf r (4 + cZ) (by omega) (by omega) (by omega), h.v1 j ((hop j).mp hj) r t y hw' (fun pZ hp zZ => hlast pZ hp ((wrZ _ _ _ _).mpr zZ)) cZ c0 c1]
    unfold rwCell rwFind rwF
    rw [itx j hj.1 33 (by decide)]
  · obtain ⟨aZ, bZ⟩ := h.v2
    refine ⟨fun j r t y hj h2 hw hlast cZ c0 c1 => ?_, fun t y t0 t1 hn => ?_⟩
    · rw [e221] at h2
      have hw' := (wrZ r j t y).mp hw
      have rNZ := wNZ hw'
      rw [hf r (4 + cZ) (by omega) (by omega) (by omega)]
      have eZ := aZ j r t y hj h2 hw' (fun pZ k hp hk hk2 zZ => hlast pZ k hp hk (by rw [e221]; exact hk2) ((wrZ pZ k t y).mpr zZ)) cZ c0 c1
      rw [eZ]
      unfold rwCell rwFind rwF
      rw [io 1161 (by omega)]
    · have eZ := bZ t y t0 t1 (fun pZ k hk hk2 zZ => hn pZ k hk (by rw [e221]; exact hk2) ((wrZ pZ k t y).mpr zZ))
      unfold rwFind rwF at *
      rw [io 1161 (by omega)]
      exact eZ
  · rw [so 233 (by decide) (by decide), so 234 (by decide) (by decide)]
    exact h.rd
  · rw [e221] at h1
    obtain ⟨pZ, wZ⟩ := h.pd j hj h1
    refine ⟨pZ.of ⟨fun k aZ bZ => by rw [itx0 j hj], itx j hj 13 (by decide)⟩ (fun o aZ bZ => so o (by omega) (by omega)) (so 201 (by decide) (by decide)) (s1Z 0 (by decide) (by decide)), fun t y hy => (rdZ _ t y).mpr (wZ t y ?_)⟩
    exact (YS_of (S := S) (fun o aZ bZ => so o (by omega) (by omega)) (so 201 (by decide) (by decide)) (so 206 (by decide) (by decide)) t y).mp hy
end
