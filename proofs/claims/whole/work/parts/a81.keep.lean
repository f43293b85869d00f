/-! what keeps the relation; who else writes, who is late -/
section
variable {I S I' S' : IT} {n N g : Nat} {lv mv lv' : Nat → Nat} {q q' : Int}
theorem SChk.of {s : Int} (h : SChk S s) (e : ∀ o, (o = 202 ∨ o = 203 ∨ o = 204 ∨ o = 205 ∨ o = 214 ∨ o = 215) → S' o = S o) : SChk S' s := fun t ρ t0 t1 hρ => by
  rw [rowOk_of (S := S) (fun k => by rw [e 202 (by decide)]) (fun k => by rw [e 203 (by decide)]) (fun k => by rw [e 204 (by decide)]) (fun k => by rw [e 205 (by decide)])]
  exact h t ρ t0 t1 ((mIn_of (fun k => by rw [e 214 (by decide)]) (fun k => by rw [e 215 (by decide)])).mp hρ)
theorem wrR_of {r i t y : Int} (e : ∀ o, 246 ≤ o → o ≤ 249 → S' o = S o) (e44 : S' 100 44 = S 100 44) : wrR S' r i t y ↔ wrR S r i t y := by
  unfold wrR
  rw [e 246 (by decide) (by decide), e 247 (by decide) (by decide), e 248 (by decide) (by decide), e 249 (by decide) (by decide), e44]
def erI (o : Nat) : Prop := o = 1032 ∨ o = 1034 ∨ o = 1035 ∨ o = 1036 ∨ o = 1037 ∨ o = 1038 ∨ o = 1040 ∨ o = 1161 ∨ o = 1069 ∨ o = 1070 ∨ o = 1071 ∨ o = 1064 ∨ o = 1192
theorem ER.keep (h : ER I S n N g lv mv q) (hop : ∀ i, opS S' n i ↔ opS S n i) (h2 : ∀ i : Nat, i < n → (S' 221 i = 2 ↔ S 221 i = 2))
    (c1 : ∀ o, erI o → I' o = I o) (c2 : I' (12000 + g) = I (12000 + g)) (c3 : ∀ i, i < n → I' (tX i + 33) = I (tX i + 33) ∧ I' (tX i) 17 = I (tX i) 17 ∧ I' (tX i + 80 + mv i) = I (tX i + 80 + mv i))
    (s1 : ∀ o, (200 < o ∧ o < 219) ∨ o = 223 ∨ o = 224 ∨ o = 226 ∨ (245 < o ∧ o < 250) → S' o = S o) (s2 : ∀ k, k = 0 ∨ k = 8 ∨ k = 16 ∨ k = 19 ∨ k = 44 ∨ k = 45 → S' 100 k = S 100 k)
    (hmb : MB S') (htx : ∀ i, i < n → TxE I' S' i (lv' i)) (hph : ∀ i : Nat, i < n → (0 ≤ S' 221 i ∧ S' 221 i ≤ 3) ∧ (S' 221 i = 1 → 0 ≤ S' 225 i ∧ S' 225 i < n) ∧ (S' 221 i ≠ 1 → S' 225 i = -1)) (hac : AcS S' n)
    (hrd : (∀ i : Nat, i < n → 0 ≤ S' 233 i ∧ S' 233 i + 4 * n ≤ q') ∧ (∀ j, 0 ≤ S' 234 j ∧ S' 234 j < 6) ∧ q' ≤ 2048) (hpd : ∀ i : Nat, i < n → S' 221 i = 1 → PdE I' S' i ∧ ∀ t y, YS S' i t y → mRead S' i t y) : ER I' S' n N g lv' mv q' := by
  have e1 : ∀ o, 200 < o → o < 219 → S' o = S o := fun o a b => s1 o (Or.inl ⟨a, b⟩)
  have eL : ∀ o, 246 ≤ o → o ≤ 249 → S' o = S o := fun o a b => s1 o (by omega)
  have e44 := s2 44 (by simp)
  have wR : ∀ r i t y, wrR S' r i t y ↔ wrR S r i t y := fun r i t y => wrR_of eL e44
  have cS : ∀ o, (o = 202 ∨ o = 203 ∨ o = 204 ∨ o = 205 ∨ o = 214 ∨ o = 215) → S' o = S o := fun o ho => e1 o (by omega) (by omega)
  have r14 : ∀ k, S' 214 k = S 214 k := fun k => by rw [e1 214 (by decide) (by decide)]
  have r15 : ∀ k, S' 215 k = S 215 k := fun k => by rw [e1 215 (by decide) (by decide)]
  have lgE : ∀ r f, lgF I' g r f = lgF I g r f := fun r f => by unfold lgF; rw [c2]
  refine ⟨⟨(h.sch.1.of (fun o ho => c1 o (by unfold erI; omega))).ofS (fun o k ho => by rcases ho with a | ⟨rfl, a⟩; exact congrFun (e1 o a.1 (by omega)) k; exact s2 k (by omega)), h.sch.2.of (fun o k ho => by rcases ho with a | ⟨rfl, a⟩; exact congrFun (e1 o a.1 (by omega)) k; exact s2 k (by omega))⟩, hmb, ⟨(s2 19 (by simp)).trans h.cnt.1, e44.trans h.cnt.2.1, h.cnt.2.2⟩, htx, hph, hac, ⟨fun i j hi hj e => ?_, fun p p0 p1 => ?_⟩, fun i hi => ?_, ⟨⟨(h.st.1.1.of (fun z _ _ => by rw [c1 1161 (by unfold erI; omega)])).ofS r14 r15, h.st.1.2.of (fun z _ _ => by rw [c1 1161 (by unfold erI; omega)])⟩, h.st.2.1.of r14 r15, h.st.2.2.of cS⟩, ?_, ?_, ?_, ?_, ?_, ?_, ?_, ?_, ?_, ?_, hrd, hpd⟩
  · rw [s1 223 (by simp)] at e
    exact h.sl.1 i j ((hop i).mp hi) ((hop j).mp hj) e
  · rw [s1 226 (by simp), s1 223 (by simp), h.sl.2 p p0 p1]
    exact ⟨fun ⟨i, a, b⟩ => ⟨i, (hop i).mpr a, b⟩, fun ⟨i, a, b⟩ => ⟨i, (hop i).mp a, b⟩⟩
  · have hi' := (hop i).mp hi
    obtain ⟨⟨a, b⟩, c, d⟩ := h.own i hi'
    rw [s1 223 (by simp)]
    have e33 := (c3 i hi'.1).1
    exact ⟨⟨(a.of (fun z _ _ => by rw [e33])).ofS r14 r15, b.of (fun z _ _ => by rw [e33])⟩, c.of r14 r15, d.of cS⟩
  · have z := h.sp
    rw [e1 217 (by decide) (by decide), e1 218 (by decide) (by decide), s2 16 (by simp), s2 45 (by simp), s1 224 (by simp), c1 1070 (by unfold erI; omega), c1 1071 (by unfold erI; omega), c1 1064 (by unfold erI; omega)]
    exact z
  · have z := h.lg
    rw [c1 1192 (by unfold erI; omega), s2 45 (by simp), eL 246 (by decide) (by decide), eL 247 (by decide) (by decide), eL 248 (by decide) (by decide), eL 249 (by decide) (by decide)]
    refine ⟨z.1, fun r hr => ?_⟩
    rw [lgE, lgE, lgE, lgE]
    exact z.2 r hr
  · rw [eL 246 (by decide) (by decide), eL 247 (by decide) (by decide), eL 248 (by decide) (by decide), eL 249 (by decide) (by decide)]
    exact h.lr
  · rw [eL 246 (by decide) (by decide), eL 247 (by decide) (by decide)]
    exact ⟨fun i hi => h.lo.1 i ((hop i).mp hi), fun i hi => (h2 i hi).trans (h.lo.2 i hi)⟩
  · rw [eL 246 (by decide) (by decide), eL 247 (by decide) (by decide)]
    exact h.le
  · exact fun i hi r p t y j hr h1 h3 => h.l3 i ((hop i).mp hi) r p t y j hr ((wR _ _ _ _).mp h1) ((wR _ _ _ _).mp h3)
  · rw [c1 1069 (by unfold erI; omega)]
    refine ⟨fun z z0 z1 => (h.wr.1 z z0 z1).elim Or.inl (fun ⟨i, a, b⟩ => Or.inr ⟨i, (hop i).mpr a, b⟩), fun i hi t y t0 t1 y0 y1 => ?_⟩
    rw [h.wr.2 i ((hop i).mp hi) t y t0 t1 y0 y1]
    exact ⟨fun ⟨r, a⟩ => ⟨r, (wR _ _ _ _).mpr a⟩, fun ⟨r, a⟩ => ⟨r, (wR _ _ _ _).mp a⟩⟩
  · intro i hi
    have hi' := (hop i).mp hi
    obtain ⟨a, b⟩ := h.fp i hi'
    obtain ⟨d1, d2, d3⟩ := c3 i hi'.1
    rw [c1 1069 (by unfold erI; omega), d2]
    refine ⟨fun z z0 z1 => ?_, b⟩
    rw [← a z z0 z1]
    unfold FpS
    rw [d2, d3]
  · intro i hi r t y h1 h3 c c0 c'1
    have hi' := (hop i).mp hi
    rw [lgE, rwCell_of (c3 i hi'.1).1]
    exact h.v1 i hi' r t y ((wR _ _ _ _).mp h1) (fun p hp z => h3 p hp ((wR _ _ _ _).mpr z)) c c0 c'1
  · refine ⟨fun j r t y hj h21 h1 h3 c c0 c'1 => ?_, fun t y t0 t1 h1 => ?_⟩
    · rw [lgE, rwCell_of (c1 1161 (by unfold erI; omega))]
      exact h.v2.1 j r t y hj ((h2 j hj).mp h21) ((wR _ _ _ _).mp h1) (fun p k hp hk h22 z => h3 p k hp hk ((h2 k hk).mpr h22) ((wR _ _ _ _).mpr z)) c c0 c'1
    · rw [(rwF_of (c1 1161 (by unfold erI; omega)) t y).2]
      exact h.v2.2 t y t0 t1 (fun p k hk h22 z => h1 p k hk ((h2 k hk).mpr h22) ((wR _ _ _ _).mpr z))
/-- the last one else that wrote a row -/
theorem mWriter_spec {i t y : Int} : ∀ m : Nat, (mWriter S i t y m = -1 ∧ ∀ j : Nat, j < m → ¬ mWrOf S i t y j) ∨ ∃ j : Nat, j < m ∧ mWrOf S i t y j ∧ mWriter S i t y m = S 247 (j : Int) := by
  intro m
  induction m with
  | zero => exact Or.inl ⟨rfl, fun j hj => by omega⟩
  | succ m ih =>
    by_cases h : mWrOf S i t y m
    · exact Or.inr ⟨m, by omega, h, mWriter_1 h⟩
    · rw [mWriter_0 h]
      rcases ih with ⟨a, b⟩ | ⟨j, a, b⟩
      · refine Or.inl ⟨a, fun j hj => ?_⟩
        by_cases e : j = m
        · rw [e]; exact h
        · exact b j (by omega)
      · exact Or.inr ⟨j, by omega, b⟩
theorem fpO_in {t y : Int} (ht : 0 ≤ t ∧ t < 6) (hy : -1000 ≤ y ∧ y ≤ 1000) : fpO t y = 2001 * t + y + 1000 ∧ 0 ≤ fpO t y ∧ fpO t y < 12006 := by
  have : fpO t y = t * 2001 + y + 1000 := by unfold fpO; exact if_pos hy
  omega
theorem writer_eq (h : ER I S n N g lv mv q) {i : Nat} {t y : Int} (ht : 0 ≤ t ∧ t < 6) (hy : -1000 ≤ y ∧ y ≤ 1000) : mWriter S i t y (S 100 44).toNat = if I 1069 (fpO t y) = -1 ∨ I 1069 (fpO t y) = i then -1 else I 1069 (fpO t y) := by
  have h44 := h.cnt.2.1
  obtain ⟨-, f0, f1⟩ := fpO_in ht hy
  -- a record that counts tells the writer
  have tell : ∀ j : Nat, j < (S 100 44).toNat → mWrOf S i t y j → S 247 (j : Int) = I 1069 (fpO t y) ∧ I 1069 (fpO t y) ≠ -1 ∧ I 1069 (fpO t y) ≠ i := fun j hj hw => by
    obtain ⟨w1, w2, w3, w4, w5⟩ := hw
    have hr := (h.lr.1 j (by omega) (by omega)).2 (by omega)
    have op : opS S n (S 247 (j : Int)).toNat := ⟨by omega, by rw [show (((S 247 (j : Int)).toNat : Nat) : Int) = S 247 (j : Int) by omega]; exact w3⟩
    have := (h.wr.2 _ op t y ht.1 ht.2 hy.1 hy.2).mpr ⟨j, by omega, by omega, w1, by omega, w4, w5⟩
    rw [show (((S 247 (j : Int)).toNat : Nat) : Int) = S 247 (j : Int) by omega] at this
    rw [this]
    exact ⟨rfl, by omega, w2⟩
  rcases mWriter_spec (S := S) (i := (i : Int)) (t := t) (y := y) (S 100 44).toNat with ⟨a, b⟩ | ⟨j, a, b, c⟩
  · rw [a]
    by_cases e : I 1069 (fpO t y) = -1 ∨ I 1069 (fpO t y) = i
    · rw [if_pos e]
    · exfalso
      rcases h.wr.1 _ f0 f1 with z | ⟨k, ok, z⟩
      · exact e (Or.inl z)
      · obtain ⟨r, r0, r1, r2, r3, r4, r5⟩ := (h.wr.2 k ok t y ht.1 ht.2 hy.1 hy.2).mp z
        refine b r.toNat (by omega) ?_
        rw [show ((r.toNat : Nat) : Int) = r by omega]
        exact ⟨r2, fun w => e (Or.inr (by omega)), by rw [r3]; exact ok.2, r4, r5⟩
  · obtain ⟨d1, d2, d3⟩ := tell j a b
    rw [c, if_neg (fun z => z.elim d2 d3)]
    exact d1
theorem oth_eq (h : ER I S n N g lv mv q) {i k : Nat} (hL : trL I k = wtL S k) (hr : ∀ x ∈ wtL S k, (0 ≤ x.1 ∧ x.1 < 6) ∧ -1000 ≤ x.2 ∧ x.2 ≤ 1000) : owF I i k = mOth S i k := by
  have at' : ∀ j : Nat, j < k → I 1102 (j : Int) = S 242 (j : Int) ∧ I 1103 (j : Int) = S 243 (j : Int) ∧ (0 ≤ S 242 (j : Int) ∧ S 242 (j : Int) < 6) ∧ -1000 ≤ S 243 (j : Int) ∧ S 243 (j : Int) ≤ 1000 := fun j hj => by
    have e := congrArg (fun L => L[j]?) hL
    simp only [trL_get hj, wtL_get hj, Option.some.injEq, Prod.mk.injEq] at e
    have := hr (S 242 (j : Int), S 243 (j : Int)) (List.mem_of_getElem? (wtL_get hj))
    exact ⟨e.1, e.2, this⟩
  have ow : ∀ j : Nat, j < k → (owG I i j ↔ mWriter S i (S 242 (j : Int)) (S 243 (j : Int)) (S 100 44).toNat ≠ -1) ∧ (owG I i j → owJ I j = mWriter S i (S 242 (j : Int)) (S 243 (j : Int)) (S 100 44).toNat) := fun j hj => by
    obtain ⟨e1, e2, e3, e4⟩ := at' j hj
    have fi := fpO_in e3 e4
    have eJ : owJ I j = I 1069 (fpO (S 242 (j : Int)) (S 243 (j : Int))) := by unfold owJ; rw [e1, e2, if_neg (by omega)]
    rw [writer_eq h e3 e4]
    unfold owG
    rw [eJ]
    by_cases c : I 1069 (fpO (S 242 (j : Int)) (S 243 (j : Int))) = -1 ∨ I 1069 (fpO (S 242 (j : Int)) (S 243 (j : Int))) = i
    · rw [if_pos c]
      exact ⟨⟨fun z => absurd c (fun w => w.elim z.1 z.2), fun z => absurd rfl z⟩, fun z => absurd c (fun w => w.elim z.1 z.2)⟩
    · rw [if_neg c]
      exact ⟨⟨fun z => z.1, fun z => ⟨z, fun w => c (Or.inr w)⟩⟩, fun _ => rfl⟩
  have none : (∀ j : Nat, j < k → ¬ owG I i j) → owF I i k = -1 ∧ mOth S i k = -1 := fun hn => by
    constructor
    · unfold owF
      rw [if_pos]
      exact fs_none (fun p p0 p1 hp => hn p.toNat (by omega) (by rw [show ((p.toNat : Nat) : Int) = p by omega]; exact hp))
    · have go : ∀ m : Nat, m ≤ k → mOth S i m = -1 := by
        intro m
        induction m with
        | zero => intro _; rfl
        | succ m ih =>
          intro hm
          rw [mOth_1 (ih (by omega))]
          exact Classical.byContradiction (fun z => hn m (by omega) ((ow m (by omega)).1.mpr z))
      exact go k (Nat.le_refl _)
  by_cases q : ∃ j : Nat, j < k ∧ owG I i j
  · obtain ⟨j, hj, hg⟩ := q
    obtain ⟨j0, a, b, c⟩ := least (p := fun j : Nat => j < k ∧ owG I i j) j ⟨j, Nat.le_refl _, hj, hg⟩
    have c' : ∀ u : Nat, u < j0 → ¬ owG I i u := fun u hu z => c u hu ⟨by omega, z⟩
    have e1 : owF I i k = owJ I j0 := by
      have ef : fs (owG I i) 0 k = (j0 : Int) := by
        rcases fs_spec (owG I i) k 0 with ⟨z, w⟩ | ⟨z0, z1, z2, z3⟩
        · exact absurd b.2 (w _ (by omega) (by omega))
        · by_cases lt : fs (owG I i) 0 k < j0
          · exact absurd z2 (by
              have := c' (fs (owG I i) 0 k).toNat (by omega)
              rw [show (((fs (owG I i) 0 k).toNat : Nat) : Int) = fs (owG I i) 0 k by omega] at this
              exact this)
          · by_cases gt : (j0 : Int) < fs (owG I i) 0 k
            · exact absurd b.2 (z3 _ (by omega) gt)
            · omega
      unfold owF
      rw [ef, if_neg (by omega)]
    have e2 : ∀ m : Nat, m ≤ k → (m ≤ j0 → mOth S i m = -1) ∧ (j0 < m → mOth S i m = owJ I j0) := by
      intro m
      induction m with
      | zero => intro _; exact ⟨fun _ => rfl, fun z => by omega⟩
      | succ m ih =>
        intro hm
        obtain ⟨i1, i2⟩ := ih (by omega)
        by_cases lt : m < j0
        · refine ⟨fun _ => ?_, fun z => by omega⟩
          rw [mOth_1 (i1 (by omega))]
          exact Classical.byContradiction (fun z => c' m lt ((ow m (by omega)).1.mpr z))
        · refine ⟨fun z => by omega, fun _ => ?_⟩
          by_cases e : m = j0
          · subst e
            rw [mOth_1 (i1 (Nat.le_refl _))]
            exact ((ow m (by omega)).2 b.2).symm
          · have := i2 (by omega)
            rw [mOth_0 (by rw [this]; exact b.2.1)]
            exact this
    rw [e1, (e2 k (Nat.le_refl _)).2 b.1]
  · have := none (fun j hj z => q ⟨j, hj, z⟩)
    rw [this.1, this.2]
/-- a row of the list was committed by another one since -/
theorem late_eq (h : ER I S n N g lv mv q) {i k : Nat} (hi : i < n) (h41 : S 100 41 = k) (hL : trL I k = wtL S k) (hr : ∀ x ∈ wtL S k, (0 ≤ x.1 ∧ x.1 < 6) ∧ -1000 ≤ x.2 ∧ x.2 ≤ 1000) : (∃ j : Int, 0 ≤ j ∧ j < k ∧ csG I (tX i) (I 1102 j) (I 1103 j)) ↔ mLate S i := by
  have at' : ∀ j : Nat, j < k → I 1102 (j : Int) = S 242 (j : Int) ∧ I 1103 (j : Int) = S 243 (j : Int) ∧ (0 ≤ S 242 (j : Int) ∧ S 242 (j : Int) < 6) ∧ -1000 ≤ S 243 (j : Int) ∧ S 243 (j : Int) ≤ 1000 := fun j hj => by
    have e := congrArg (fun L => L[j]?) hL
    simp only [trL_get hj, wtL_get hj, Option.some.injEq, Prod.mk.injEq] at e
    have := hr (S 242 (j : Int), S 243 (j : Int)) (List.mem_of_getElem? (wtL_get hj))
    exact ⟨e.1, e.2, this⟩
  have one : ∀ j : Int, 0 ≤ j → j < k → (csG I (tX i) (I 1102 j) (I 1103 j) ↔ mLateG S i j) := fun j j0 j1 => by
    obtain ⟨e1, e2, e3, e4⟩ := at' j.toNat (by omega)
    rw [show ((j.toNat : Nat) : Int) = j by omega] at e1 e2 e3 e4
    obtain ⟨f0, f1, f2⟩ := fpO_in e3 e4
    unfold csG mLateG
    rw [e1, e2, h.sp.1.1 _ f1 f2, (h.tx i hi).1.2.2.1, f0]
    exact ⟨fun z => z.2, fun z => ⟨by omega, z⟩⟩
  unfold mLate
  rw [h41]
  exact ⟨fun ⟨j, a, b, c⟩ => ⟨j, a, b, (one j a b).mp c⟩, fun ⟨j, a, b, c⟩ => ⟨j, a, b, (one j a b).mpr c⟩⟩
end
