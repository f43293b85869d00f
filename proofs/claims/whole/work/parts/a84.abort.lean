/-! a transaction ends: the relation behind it -/
section
variable {I S T I' S' : IT} {n N N' g g' : Nat} {lv mv lv' mv' : Nat → Nat} {q q' : Int}
/-- no WRITE is among the records that came -/
theorem wrR_ap {L : List Rc} (hX : MlX S T N L) (h44 : S 100 44 = N) (hL : ∀ x ∈ L, x.1 ≠ 0) {r i t y : Int} : wrR T r i t y ↔ wrR S r i t y := by
  unfold wrR
  rw [hX.2.1, h44]
  constructor
  · rintro ⟨r0, r1, r2, r3, r4, r5⟩
    by_cases c : r < N
    · have u := hX.2.2.1 r (by omega)
      rw [u.1] at r2; rw [u.2.1] at r3; rw [u.2.2.1] at r4; rw [u.2.2.2] at r5
      exact ⟨r0, c, r2, r3, r4, r5⟩
    · exfalso
      have hj : (r - N).toNat < L.length := by omega
      have u := hX.2.2.2 (r - N).toNat _ (List.getElem?_eq_getElem hj)
      rw [show ((N + (r - N).toNat : Nat) : Int) = r by omega] at u
      exact hL _ (List.getElem_mem hj) (u.1.symm.trans r2)
  · rintro ⟨r0, r1, r2, r3, r4, r5⟩
    have u := hX.2.2.1 r (by omega)
    exact ⟨r0, by omega, u.1.trans r2, u.2.1.trans r3, u.2.2.1.trans r4, u.2.2.2.trans r5⟩
theorem abM_mem {i : Int} {x : Rc} (h : x ∈ abM S i N) : (x.1 = 2 ∨ x.1 = 3) ∧ x.2.1 = i := by
  unfold abM at h
  rcases List.mem_append.mp h with h | h
  · have := unM_mem N h
    exact ⟨Or.inl this.1, this.2.1⟩
  · rw [List.mem_singleton.mp h]; exact ⟨Or.inr rfl, rfl⟩
/-- a record behind the old ones -/
theorem new_rec {L : List Rc} (hX : MlX S T N L) {r : Int} (h0 : (N : Int) ≤ r) (h1 : r < ((N + L.length : Nat) : Int)) : ∃ x, x ∈ L ∧ T 246 r = x.1 ∧ T 247 r = x.2.1 ∧ T 248 r = x.2.2.1 ∧ T 249 r = x.2.2.2 := by
  have hj : (r - N).toNat < L.length := by omega
  have u := hX.2.2.2 (r - N).toNat _ (List.getElem?_eq_getElem hj)
  rw [show ((N + (r - N).toNat : Nat) : Int) = r by omega] at u
  exact ⟨_, List.getElem_mem hj, u⟩
/-- the records of an ended transaction are added -/
def EndS (S T S' : IT) (i : Nat) (a : Int) : Prop := (∀ o k, ¬ ((o = 221 ∨ o = 222 ∨ o = 225) ∧ k = (i : Int)) → ¬ (o = 226 ∧ k = S 223 i) → S' o k = T o k) ∧ S' 221 i = a ∧ S' 225 i = -1 ∧ S' 226 (S 223 i) = 0
def EndI (I I' : IT) (S' : IT) (i : Nat) (m g g' N N' : Nat) (a : Int) : Prop := (∀ o, ¬ nLg o → o ≠ tX i → o ≠ 1069 → I' o = I o) ∧ (∀ k, k ≠ 4 → k ≠ 5 → k ≠ 6 → I' (tX i) k = I (tX i) k) ∧ (I' (tX i) 4 = a ∧ I' (tX i) 5 = S' 222 i ∧ I' (tX i) 6 = -1) ∧ (∀ z, (FpS I i m z → I' 1069 z = -1) ∧ (¬ FpS I i m z → I' 1069 z = I 1069 z)) ∧ lgEq I' S' g' N' ∧ (I' 1192 0 = N' ∧ I' 1192 1 = I 1192 1) ∧ ∀ (r : Nat) f, r < N → 0 ≤ f → f < 8 → lgF I' g' r f = lgF I g r f
theorem ER.abort {i : Nat} (h : ER I S n N g lv mv q) (hl : ∀ j, j < n → lv j < 15 ∧ mv j < 15) (hi : opS S n i) (hX : MlX S T N (abM S i N)) (hN : N' = N + (abM S i N).length) (h16 : N' ≤ 16384) (hS : EndS S T S' i 3) (hI : EndI I I' S' i (mv i) g g' N N' 3) : ER I' S' n N' g' lv mv q := by
  obtain ⟨c1, c2, ⟨c4, c5, c6⟩, cw, cl, ⟨cl0, cl1⟩, cr⟩ := hI
  obtain ⟨s1, s2, s3, s4⟩ := hS
  have n60 := h.cnt.2.2.1
  have h44 := h.cnt.2.1
  have i60 : i < 60 := by have := hi.1; omega
  have fo : ∀ o, (o < 246 ∨ 249 < o) → o ≠ 221 → o ≠ 222 → o ≠ 225 → o ≠ 226 → o ≠ 100 → S' o = S o := fun o a b c d e f => funext (fun k => (s1 o k (fun z => by omega) (fun z => e z.1)).trans (hX.1 o k a (Or.inl f)))
  have f1 : ∀ k, k ≠ 44 → S' 100 k = S 100 k := fun k hk => (s1 100 k (fun z => by omega) (fun z => by omega)).trans (hX.1 100 k (by omega) (Or.inr hk))
  have at' : ∀ o (j : Nat), (o = 221 ∨ o = 222 ∨ o = 225) → j ≠ i → S' o j = S o j := fun o j ho hj => (s1 o j (fun z => by omega) (fun z => by omega)).trans (hX.1 o j (by omega) (Or.inl (by omega)))
  have fl : ∀ o, 246 ≤ o → o ≤ 249 → S' o = T o := fun o a b => funext (fun k => s1 o k (fun z => by omega) (fun z => by omega))
  have e44 : S' 100 44 = N' := by rw [s1 100 44 (fun z => by omega) (fun z => by omega), hX.2.1, hN]
  have hop : ∀ j, opS S' n j ↔ opS S n j ∧ j ≠ i := fun j => by
    unfold opS
    by_cases e : j = i
    · subst e
      rw [s2]
      exact ⟨fun z => by omega, fun z => absurd rfl z.2⟩
    · rw [at' 221 j (Or.inl rfl) e]
      exact ⟨fun z => ⟨z, e⟩, fun z => z.1⟩
  have noW : ∀ x ∈ abM S i N, x.1 ≠ 0 := fun x hx => by have := (abM_mem hx).1; omega
  have wR : ∀ r j t y, wrR S' r j t y ↔ wrR S r j t y := fun r j t y => by
    rw [← wrR_ap hX h44 noW]
    unfold wrR
    rw [fl 246 (by decide) (by decide), fl 247 (by decide) (by decide), fl 248 (by decide) (by decide), fl 249 (by decide) (by decide), e44, hX.2.1, hN]
  have cS : ∀ o, (o = 202 ∨ o = 203 ∨ o = 204 ∨ o = 205 ∨ o = 214 ∨ o = 215) → S' o = S o := fun o ho => fo o (by omega) (by omega) (by omega) (by omega) (by omega) (by omega)
  have r14 : ∀ k, S' 214 k = S 214 k := fun k => by rw [cS 214 (by decide)]
  have r15 : ∀ k, S' 215 k = S 215 k := fun k => by rw [cS 215 (by decide)]
  have e223 := fo 223 (by decide) (by decide) (by decide) (by decide) (by decide) (by decide)
  have fx : ∀ o, erI o → o ≠ 1192 → o ≠ 1069 → I' o = I o := fun o ho h2 h3 => c1 o (by unfold erI at ho; unfold nLg; omega) (by unfold erI at ho; unfold tX; omega) h3
  have tx' : ∀ j, j < n → ∀ a, a < 128 → tX j + a ≠ tX i → I' (tX j + a) = I (tX j + a) := fun j hj a ha hne => c1 _ (by unfold nLg tX; omega) hne (by unfold tX; omega)
  have tx33 : ∀ j, j < n → I' (tX j + 33) = I (tX j + 33) := fun j hj => tx' j hj 33 (by decide) (by unfold tX; omega)
  have txk : ∀ j, j < n → ∀ k, k ≠ 4 → k ≠ 5 → k ≠ 6 → I' (tX j) k = I (tX j) k := fun j hj k a b c => by
    by_cases e : j = i
    · subst e; exact c2 k a b c
    · have := tx' j hj 0 (by decide) (by unfold tX; omega)
      rw [Nat.add_zero] at this
      rw [this]
  have rds : ∀ j : Int, ∀ t y, mRead S' j t y ↔ mRead S j t y := fun j t y => by
    unfold mRead
    rw [fo 233 (by decide) (by decide) (by decide) (by decide) (by decide) (by decide), fo 234 (by decide) (by decide) (by decide) (by decide) (by decide) (by decide), fo 235 (by decide) (by decide) (by decide) (by decide) (by decide) (by decide), fo 236 (by decide) (by decide) (by decide) (by decide) (by decide) (by decide)]
  have hfp := (h.fp i hi).1
  have w69 : ∀ z, 0 ≤ z → z < 12006 → I' 1069 z = if I 1069 z = i then -1 else I 1069 z := fun z z0 z1 => by
    by_cases e : I 1069 z = i
    · rw [if_pos e]; exact (cw z).1 ((hfp z z0 z1).mpr e)
    · rw [if_neg e]; exact (cw z).2 (fun y => e ((hfp z z0 z1).mp y))
  refine ⟨⟨(h.sch.1.of (fun o ho => fx o (by unfold erI; omega) (by omega) (by omega))).ofS (fun o k ho => by rcases ho with a | ⟨rfl, a⟩; exact congrFun (fo o (by omega) (by omega) (by omega) (by omega) (by omega) (by omega)) k; exact f1 k (by omega)), h.sch.2.of (fun o k ho => by rcases ho with a | ⟨rfl, a⟩; exact congrFun (fo o (by omega) (by omega) (by omega) (by omega) (by omega) (by omega)) k; exact f1 k (by omega))⟩, ?_, ⟨(f1 19 (by decide)).trans h.cnt.1, e44, n60, h16⟩, fun j hj => ?_, fun j hj => ?_, h.ac.cut (fun y => ?_), ⟨fun j k hj hk e => ?_, fun p p0 p1 => ?_⟩, fun j hj => ?_, ⟨⟨(h.st.1.1.of (fun z _ _ => by rw [fx 1161 (by unfold erI; omega) (by decide) (by decide)])).ofS r14 r15, h.st.1.2.of (fun z _ _ => by rw [fx 1161 (by unfold erI; omega) (by decide) (by decide)])⟩, h.st.2.1.of r14 r15, h.st.2.2.of cS⟩, ?_, ?_, ?_, ?_, ?_, ?_, ?_, ?_, ?_, ?_, ?_, ?_⟩
  · have b := h.mb
    refine b.of (f1 0 (by decide)) (f1 8 (by decide)) (f1 19 (by decide)) (fun k => congrFun (fo 201 (by decide) (by decide) (by decide) (by decide) (by decide) (by decide)) k) (fun k => congrFun (fo 202 (by decide) (by decide) (by decide) (by decide) (by decide) (by decide)) k) (fun k => congrFun (fo 206 (by decide) (by decide) (by decide) (by decide) (by decide) (by decide)) k) (fun k => congrFun (fo 211 (by decide) (by decide) (by decide) (by decide) (by decide) (by decide)) k) (fun k => by rw [r14]; exact b.row k) (fun k => congrFun e223 k) (fun k => by rw [fo 236 (by decide) (by decide) (by decide) (by decide) (by decide) (by decide)]; exact b.who k)
  · obtain ⟨t, r⟩ := h.tx j hj
    have l15 := (hl j hj).1
    refine ⟨?_, (r.ofI (txk j hj 13 (by decide) (by decide) (by decide)) (txk j hj 14 (by decide) (by decide) (by decide)) (by rw [Nat.add_assoc]; exact tx' j hj _ (by omega) (by unfold tX; omega)) (by rw [Nat.add_assoc]; exact tx' j hj _ (by omega) (by unfold tX; omega))).ofS (fun t y _ _ => ⟨rds _ t y, by rw [fo 236 (by decide) (by decide) (by decide) (by decide) (by decide) (by decide)]⟩)⟩
    rw [txk j hj 0 (by decide) (by decide) (by decide), txk j hj 1 (by decide) (by decide) (by decide), txk j hj 2 (by decide) (by decide) (by decide), fo 220 (by decide) (by decide) (by decide) (by decide) (by decide) (by decide), fo 224 (by decide) (by decide) (by decide) (by decide) (by decide) (by decide)]
    by_cases e : j = i
    · subst e
      exact ⟨t.1, t.2.1, t.2.2.1, c4.trans s2.symm, c5, c6.trans s3.symm⟩
    · have ne : I' (tX j) = I (tX j) := by have := tx' j hj 0 (by decide) (by unfold tX; omega); rwa [Nat.add_zero] at this
      rw [at' 221 j (Or.inl rfl) e, at' 222 j (Or.inr (Or.inl rfl)) e, at' 225 j (Or.inr (Or.inr rfl)) e, ne]
      exact t
  · by_cases e : j = i
    · subst e
      rw [s2, s3]
      exact ⟨by omega, fun z => by omega, fun _ => rfl⟩
    · rw [at' 221 j (Or.inl rfl) e, at' 225 j (Or.inr (Or.inr rfl)) e]; exact h.ph j hj
  · by_cases e : y = (i : Int)
    · rw [e]; exact Or.inr s3
    · exact Or.inl ((s1 225 y (fun z => e z.2) (fun z => by omega)).trans (hX.1 225 y (by omega) (Or.inl (by decide))))
  · rw [e223] at e
    exact h.sl.1 j k ((hop j).mp hj).1 ((hop k).mp hk).1 e
  · by_cases e : p = S 223 i
    · subst e
      rw [s4]
      refine ⟨fun z => absurd rfl z, ?_⟩
      rintro ⟨j, hj, e2⟩
      rw [e223] at e2
      have hj' := (hop j).mp hj
      exact absurd (h.sl.1 j i hj'.1 hi e2) hj'.2
    · rw [(s1 226 p (fun z => by omega) (fun z => e z.2)).trans (hX.1 226 p (by omega) (Or.inl (by decide))), h.sl.2 p p0 p1, e223]
      constructor
      · rintro ⟨j, hj, e2⟩
        exact ⟨j, (hop j).mpr ⟨hj, fun z => e (by rw [← e2, z])⟩, e2⟩
      · rintro ⟨j, hj, e2⟩
        exact ⟨j, ((hop j).mp hj).1, e2⟩
  · obtain ⟨hj', -⟩ := (hop j).mp hj
    obtain ⟨⟨a, b⟩, c, d⟩ := h.own j hj'
    rw [e223]
    have e33 := tx33 j hj'.1
    exact ⟨⟨(a.of (fun z _ _ => by rw [e33])).ofS r14 r15, b.of (fun z _ _ => by rw [e33])⟩, c.of r14 r15, d.of cS⟩
  · have z := h.sp
    rw [fo 217 (by decide) (by decide) (by decide) (by decide) (by decide) (by decide), fo 218 (by decide) (by decide) (by decide) (by decide) (by decide) (by decide), f1 16 (by decide), f1 45 (by decide), fo 224 (by decide) (by decide) (by decide) (by decide) (by decide) (by decide), fx 1070 (by unfold erI; omega) (by decide) (by decide), fx 1071 (by unfold erI; omega) (by decide) (by decide), fx 1064 (by unfold erI; omega) (by decide) (by decide)]
    exact ⟨z.1, ⟨z.2.1.1, z.2.1.2.1, by have := z.2.1.2.2; omega⟩, z.2.2⟩
  · exact ⟨⟨cl0, by rw [cl1, f1 45 (by decide)]; exact h.lg.1.2⟩, cl⟩
  · rw [fl 246 (by decide) (by decide), fl 247 (by decide) (by decide), fl 248 (by decide) (by decide), fl 249 (by decide) (by decide)]
    refine ⟨fun r r0 r1 => ?_, fun r hr => ?_⟩
    · by_cases c : r < N
      · have u := hX.2.2.1 r (by omega)
        rw [u.1, u.2.1]; exact h.lr.1 r r0 c
      · obtain ⟨x, hx, e1, e2, -⟩ := new_rec hX (r := r) (by omega) (by omega)
        rw [e1, e2]
        have := abM_mem hx
        have := hi.1
        omega
    · by_cases c : (N : Int) ≤ r ∧ r < N + (abM S i N).length
      · obtain ⟨x, hx, e1, -⟩ := new_rec hX (r := r) c.1 (by omega)
        exact absurd (e1.symm.trans hr) (noW x hx)
      · have u := hX.2.2.1 r c
        rw [u.1] at hr
        rw [u.2.2.1, u.2.2.2]; exact h.lr.2 r hr
  · rw [fl 246 (by decide) (by decide), fl 247 (by decide) (by decide)]
    have only : ∀ r : Int, 0 ≤ r → r < N' → (r < N ∧ T 246 r = S 246 r ∧ T 247 r = S 247 r) ∨ ((T 246 r = 2 ∨ T 246 r = 3) ∧ T 247 r = i) := fun r r0 r1 => by
      by_cases c : r < N
      · have u := hX.2.2.1 r (by omega)
        exact Or.inl ⟨c, u.1, u.2.1⟩
      · obtain ⟨x, hx, e1, e2, -⟩ := new_rec hX (r := r) (by omega) (by omega)
        have := abM_mem hx
        exact Or.inr ⟨by omega, by omega⟩
    refine ⟨fun j hj r r0 r1 hw => ?_, fun j hj => ?_⟩
    · obtain ⟨hj', hne⟩ := (hop j).mp hj
      rcases only r r0 r1 with ⟨a, b, c⟩ | ⟨a, b⟩
      · rw [c] at hw
        rw [b]; exact h.lo.1 j hj' r r0 a hw
      · omega
    · have e21 : S' 221 j = 2 ↔ S 221 j = 2 := by
        by_cases e : j = i
        · subst e
          rw [s2]
          have := hi.2
          omega
        · rw [at' 221 j (Or.inl rfl) e]
      rw [e21, h.lo.2 j hj]
      constructor
      · rintro ⟨r, r0, r1, r2, r3⟩
        have u := hX.2.2.1 r (by omega)
        exact ⟨r, r0, by omega, u.1.trans r2, u.2.1.trans r3⟩
      · rintro ⟨r, r0, r1, r2, r3⟩
        rcases only r r0 r1 with ⟨a, b, c⟩ | ⟨a, b⟩
        · exact ⟨r, r0, a, by omega, by omega⟩
        · omega
  · rw [fl 246 (by decide) (by decide), fl 247 (by decide) (by decide)]
    intro r p r0 rp p1 hk hp
    by_cases c : p < N
    · have u := hX.2.2.1 r (by omega)
      have v := hX.2.2.1 p (by omega)
      rw [u.1] at hk
      rw [v.1] at hp
      rw [u.2.1, v.2.1]
      exact h.le r p r0 rp c hk hp
    · obtain ⟨x, hx, e1, -⟩ := new_rec hX (r := p) (by omega) (by omega)
      exact absurd (e1.symm.trans hp) (noW x hx)
  · intro j hj r p t y k hr h1 h3
    exact h.l3 j ((hop j).mp hj).1 r p t y k hr ((wR _ _ _ _).mp h1) ((wR _ _ _ _).mp h3)
  · refine ⟨fun z z0 z1 => ?_, fun j hj t y t0 t1 y0 y1 => ?_⟩
    · rw [w69 z z0 z1]
      by_cases e : I 1069 z = i
      · rw [if_pos e]; exact Or.inl rfl
      · rw [if_neg e]
        rcases h.wr.1 z z0 z1 with w | ⟨j, a, b⟩
        · exact Or.inl w
        · exact Or.inr ⟨j, (hop j).mpr ⟨a, fun y => e (by rw [b, y])⟩, b⟩
    · obtain ⟨hj', hne⟩ := (hop j).mp hj
      obtain ⟨-, f0, f1'⟩ := fpO_in ⟨t0, t1⟩ ⟨y0, y1⟩
      rw [w69 _ f0 f1']
      have : (∃ r, wrR S' r j t y) ↔ ∃ r, wrR S r j t y := ⟨fun ⟨r, a⟩ => ⟨r, (wR _ _ _ _).mp a⟩, fun ⟨r, a⟩ => ⟨r, (wR _ _ _ _).mpr a⟩⟩
      rw [this, ← h.wr.2 j hj' t y t0 t1 y0 y1]
      by_cases e : I 1069 (fpO t y) = i
      · rw [if_pos e, e]
        exact ⟨fun z => by omega, fun z => absurd (by omega) hne⟩
      · rw [if_neg e]
  · intro j hj
    obtain ⟨hj', hne⟩ := (hop j).mp hj
    obtain ⟨a, b⟩ := h.fp j hj'
    have m15 := (hl j hj'.1).2
    rw [txk j hj'.1 17 (by decide) (by decide) (by decide)]
    refine ⟨fun z z0 z1 => ?_, by omega⟩
    have e80 : I' (tX j + 80 + mv j) = I (tX j + 80 + mv j) := by rw [Nat.add_assoc]; exact tx' j hj'.1 _ (by omega) (by unfold tX; omega)
    have : FpS I' j (mv j) z ↔ FpS I j (mv j) z := by
      unfold FpS
      rw [txk j hj'.1 17 (by decide) (by decide) (by decide), e80]
    rw [this, a z z0 z1, w69 z z0 z1]
    by_cases e : I 1069 z = i
    · rw [if_pos e, e]
      exact ⟨fun w => absurd (by omega) hne, fun w => by omega⟩
    · rw [if_neg e]
  · intro j hj r t y h1 h3 c c0 c'1
    obtain ⟨hj', hne⟩ := (hop j).mp hj
    have h1' := (wR _ _ _ _).mp h1
    rw [cr r (4 + c) (by have := h1'.2.1; omega) (by omega) (by omega), rwCell_of (tx33 j hj'.1)]
    exact h.v1 j hj' r t y h1' (fun p hp z => h3 p hp ((wR _ _ _ _).mpr z)) c c0 c'1
  · have e21 : ∀ j : Nat, S' 221 j = 2 ↔ S 221 j = 2 := fun j => by
      by_cases e : j = i
      · subst e
        rw [s2]
        have := hi.2
        omega
      · rw [at' 221 j (Or.inl rfl) e]
    have e61 := fx 1161 (by unfold erI; omega) (by decide) (by decide)
    refine ⟨fun j r t y hj h21 h1 h3 c c0 c'1 => ?_, fun t y t0 t1 h1 => ?_⟩
    · have h1' := (wR _ _ _ _).mp h1
      rw [cr r (4 + c) (by have := h1'.2.1; omega) (by omega) (by omega), rwCell_of e61]
      exact h.v2.1 j r t y hj ((e21 j).mp h21) h1' (fun p k hp hk h22 z => h3 p k hp hk ((e21 k).mpr h22) ((wR _ _ _ _).mpr z)) c c0 c'1
    · rw [(rwF_of e61 t y).2]
      exact h.v2.2 t y t0 t1 (fun p k hk h22 z => h1 p k hk ((e21 k).mpr h22) ((wR _ _ _ _).mpr z))
  · rw [fo 233 (by decide) (by decide) (by decide) (by decide) (by decide) (by decide), fo 234 (by decide) (by decide) (by decide) (by decide) (by decide) (by decide)]; exact h.rd
  · intro j hj h1
    have e : j ≠ i := fun z => by rw [z, s2] at h1; omega
    rw [at' 221 j (Or.inl rfl) e] at h1
    obtain ⟨p, w⟩ := h.pd j hj h1
    refine ⟨p.of ⟨fun k a b => txk j hj k (by omega) (by omega) (by omega), tx' j hj 13 (by decide) (by unfold tX; omega)⟩ (fun o a b => fo o (by omega) (by omega) (by omega) (by omega) (by omega) (by omega)) (fo 201 (by decide) (by decide) (by decide) (by decide) (by decide) (by decide)) (f1 0 (by decide)), fun t y hy => ?_⟩
    exact (rds _ t y).mpr (w t y ((YS_of (S := S) (fun o a b => fo o (by omega) (by omega) (by omega) (by omega) (by omega) (by omega)) (fo 201 (by decide) (by decide) (by decide) (by decide) (by decide) (by decide)) (fo 206 (by decide) (by decide) (by decide) (by decide) (by decide) (by decide)) t y).mp hy))
end
