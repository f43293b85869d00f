/-! the relation behind a trial, and behind changes of what a transaction is -/
section
variable {I S I' S' I2 : IT} {n N g : Nat} {lv mv lv' : Nat → Nat} {q q' : Int}
theorem itw_cut (e : ∀ y, S' 225 y = S 225 y ∨ S' 225 y = -1) : ∀ (k : Nat) (x : Int), itw S' k x = -1 ∨ itw S' k x = itw S k x := by
  intro k
  induction k with
  | zero => intro x; exact Or.inr rfl
  | succ k ih =>
    intro x
    show (if x = -1 then -1 else itw S' k (S' 225 x)) = -1 ∨ (if x = -1 then -1 else itw S' k (S' 225 x)) = (if x = -1 then -1 else itw S k (S 225 x))
    by_cases h : x = -1
    · rw [if_pos h]; exact Or.inl rfl
    · rw [if_neg h, if_neg h]
      rcases e x with z | z
      · rw [z]; exact ih _
      · rw [z, itw_none]; exact Or.inl rfl
theorem AcS.cut {n : Nat} (h : AcS S n) (e : ∀ y, S' 225 y = S 225 y ∨ S' 225 y = -1) : AcS S' n := by
  intro i k hi hk z
  rcases itw_cut e k (i : Int) with w | w
  · omega
  · exact h i k hi hk (w.symm.trans z)
theorem itw_same {i : Int} (e : ∀ y, y ≠ i → S' 225 y = S 225 y) : ∀ (k : Nat) (x : Int), (∀ j : Nat, j < k → itw S j x ≠ i) → itw S' k x = itw S k x := by
  intro k
  induction k with
  | zero => intro x _; rfl
  | succ k ih =>
    intro x h
    show (if x = -1 then -1 else itw S' k (S' 225 x)) = (if x = -1 then -1 else itw S k (S 225 x))
    by_cases hx : x = -1
    · rw [if_pos hx, if_pos hx]
    · rw [if_neg hx, if_neg hx, e x (h 0 (by omega))]
      refine ih _ (fun j hj => ?_)
      have := h (j + 1) (by omega)
      have e2 : itw S (j + 1) x = itw S j (S 225 x) := if_neg hx
      rw [e2] at this
      exact this
theorem AcS.add {n : Nat} {i : Nat} {b : Int} (h : AcS S n) (e : ∀ y, y ≠ (i : Int) → S' 225 y = S 225 y) (eb : S' 225 i = b) (hb : ∀ j, itw S j b ≠ (i : Int)) : AcS S' n := by
  have tail : ∀ j, itw S' j b = itw S j b := fun j => itw_same e j b (fun u _ => hb u)
  intro x k hx hk z
  by_cases w : ∃ j : Nat, j < k ∧ itw S' j x = i
  · obtain ⟨j, hj, hw⟩ := w
    have c : itw S' (k - j + j) (i : Int) = i := by
      rw [itw_add]
      have : itw S' (k - j) (i : Int) = x := by rw [← hw, ← itw_add, show j + (k - j) = k by omega]; exact z
      rw [this]; exact hw
    rw [show k - j + j = (k - 1) + 1 by omega] at c
    have e2 : itw S' (k - 1 + 1) (i : Int) = itw S' (k - 1) (S' 225 i) := if_neg (by omega)
    rw [e2, eb, tail] at c
    exact hb _ c
  · have key : ∀ u : Nat, u ≤ k → itw S' u x = itw S u x := by
      intro u
      induction u with
      | zero => intro _; rfl
      | succ u ih =>
        intro hu
        have e1 : itw S' (u + 1) (x : Int) = itw S' 1 (itw S' u x) := itw_add u 1 x
        have e2 : itw S (u + 1) (x : Int) = itw S 1 (itw S u x) := itw_add u 1 x
        have hn : itw S' u (x : Int) ≠ i := fun y => w ⟨u, by omega, y⟩
        rw [e1, e2, ← ih (by omega)]
        show (if itw S' u (x : Int) = -1 then -1 else S' 225 (itw S' u x)) = (if itw S' u (x : Int) = -1 then -1 else S 225 (itw S' u x))
        rw [e _ hn]
    exact h x k hx hk ((key k (Nat.le_refl _)).symm.trans z)
/-- the chain that ends elsewhere never comes to i -/
theorem chain_off {n : Nat} (hn : n ≤ 60) (hp : ∀ j : Nat, j < n → S 225 j = -1 ∨ (0 ≤ S 225 j ∧ S 225 j < n)) (ha : AcS S n) {i : Int} (hi : 0 ≤ i ∧ i < n) {b : Int} (hb : 0 ≤ b ∧ b < n) (hc : mCh S i 60 b ≠ i) : ∀ j, itw S j b ≠ i := by
  obtain ⟨k, hk, he⟩ := chain_end hn hp ha hi hb
  obtain ⟨m, hm, h1, h2⟩ := least (p := fun m => itw S m b = -1 ∨ itw S m b = i) k ⟨k, Nat.le_refl _, he⟩
  have e := mCh_itw (S := S) (i := i) m b (fun j hj => ⟨fun z => h2 j hj (Or.inl z), fun z => h2 j hj (Or.inr z)⟩) (60 - m)
  rw [show m + (60 - m) = 60 by omega] at e
  have e2 : mCh S i 60 b = itw S m b := e.trans (mCh_end h1)
  have e3 : itw S m b = -1 := h1.resolve_right (fun z => hc (e2.trans z))
  intro j
  by_cases h : j < m
  · exact fun z => h2 j h (Or.inr z)
  · rw [show j = m + (j - m) by omega, itw_add, e3, itw_none]; omega
theorem YS_of {i : Nat} (e : ∀ o, 227 ≤ o → o ≤ 232 → S' o = S o) (e1 : S' 201 = S 201) (e6 : S' 206 = S 206) : ∀ t y, YS S' i t y ↔ YS S i t y := fun t y => by
  unfold YS mInY
  rw [e 227 (by decide) (by decide), e 228 (by decide) (by decide), e 229 (by decide) (by decide), e 230 (by decide) (by decide), e 231 (by decide) (by decide), e 232 (by decide) (by decide), e1, e6]
theorem PdE.of {i : Nat} (h : PdE I S i) (eI : (∀ k, 7 ≤ k → k ≤ 11 → I' (tX i) k = I (tX i) k) ∧ I' (tX i + 13) = I (tX i + 13)) (e : ∀ o, 227 ≤ o → o ≤ 232 → S' o = S o) (e1 : S' 201 = S 201) (e0 : S' 100 0 = S 100 0) : PdE I' S' i := by
  unfold PdE InH UpH at *
  rw [e 227 (by decide) (by decide), e 228 (by decide) (by decide), e 229 (by decide) (by decide), e 230 (by decide) (by decide), e 231 (by decide) (by decide), e 232 (by decide) (by decide), e1, e0, eI.2, eI.1 7 (by decide) (by decide), eI.1 8 (by decide) (by decide), eI.1 9 (by decide) (by decide), eI.1 10 (by decide) (by decide), eI.1 11 (by decide) (by decide)]
  exact h
theorem YS_rg {i : Nat} (ht : 0 ≤ S 228 i ∧ S 228 i < 6) (h6 : ∀ k, S 206 k = -1 ∨ (0 ≤ S 206 k ∧ S 206 k < 6)) {t y : Int} (h : YS S i t y) : 0 ≤ t ∧ t < 6 := by
  rcases h with ⟨-, ⟨-, e, -⟩ | ⟨j, -, -, a, -, e, -⟩⟩ | ⟨-, e, -⟩ | ⟨-, a, -, e, -⟩
  · rw [e]; exact ht
  · rw [e]; exact (h6 _).resolve_left a
  · rw [e]; exact ht
  · rw [e]; exact (h6 _).resolve_left a
theorem RdE.ofI {i l : Nat} (h : RdE I S i l) (e1 : I' (tX i) 13 = I (tX i) 13) (e2 : I' (tX i) 14 = I (tX i) 14) (e3 : I' (tX i + 40 + l) = I (tX i + 40 + l)) (e4 : I' (tX i + 60 + l) = I (tX i + 60 + l)) : RdE I' S i l := by
  unfold RdE whOf rdOf txRd txWh at *
  rw [e1, e2, e3, e4]
  exact h
theorem RdE.ofS {i l : Nat} (h : RdE I S i l) (e : ∀ t y, 0 ≤ t → t < 6 → (mRead S' i t y ↔ mRead S i t y) ∧ S' 236 (6 * (i : Int) + t) = S 236 (6 * (i : Int) + t)) : RdE I S' i l := ⟨fun t t0 t1 => by rw [(e t 0 t0 t1).2]; exact h.1 t t0 t1, fun t y t0 t1 => (h.2 t y t0 t1).trans (e t y t0 t1).1.symm⟩
theorem tX_ne {i j : Nat} (h : i ≠ j) (a b : Nat) (ha : a < 128) (hb : b < 128) : tX i + a ≠ tX j + b := by unfold tX; omega
/-- a transaction's names are others' -/
theorem nAl_oth {i j a : Nat} (h : j ≠ i) (ha : a < 128) : ¬ nAl i (tX j + a) := by
  unfold nAl nTx tX
  omega
theorem nAl_fix {i o : Nat} (h : erI o ∨ (12000 ≤ o ∧ o < 12020)) : i < 60 → ¬ nAl i o := fun hi => by
  unfold nAl nTx tX
  unfold erI at h
  omega
theorem ER.tri {i l' m : Nat} {Wt : Int → Prop} (h : ER I S n N g lv mv q) (hV : ∀ j, j < n → lv j < 15 ∧ mv j < 15) (hg : g < 10) (hi : opS S n i) (hpi : 0 ≤ S 228 i ∧ S 228 i < 6) (hF : ∀ o, ¬ nAl i o → I2 o = I o) (hx : (∀ k, k ≠ 13 → k ≠ 14 → I2 (tX i) k = I (tX i) k) ∧ I2 (tX i + 13) = I (tX i + 13) ∧ I2 (tX i + 33) = I (tX i + 33) ∧ I2 (tX i + 80 + mv i) = I (tX i + 80 + mv i))
    (hr : RdE I2 (mWantI (up2 S 100 41 0) i) i l') (hm : MrD S (mWantI (up2 S 100 41 0) i) i Wt (YS S i) 4) (hq : (S 233 i + 4 + 4 * n ≤ q' ∨ ∀ t y, YS S i t y → mRead S i t y) ∧ q ≤ q' ∧ q' ≤ 2048) : ER I2 (mWantI (up2 S 100 41 0) i) n N g (fun j => if j = i then l' else lv j) mv q' := by
  have n60 := h.cnt.2.2.1
  have fW := wantFr (S := S) (i := i)
  have fo : ∀ o, (o < 233 ∨ 243 < o) → o ≠ 100 → mWantI (up2 S 100 41 0) i o = S o := fun o a b => funext (fun k => fW o k a (Or.inl b))
  have f1 : ∀ k, k ≠ 41 → mWantI (up2 S 100 41 0) i 100 k = S 100 k := fun k hk => fW 100 k (by omega) (Or.inr hk)
  have e221 := fo 221 (by decide) (by decide)
  have e225 := fo 225 (by decide) (by decide)
  have hop : ∀ j, opS (mWantI (up2 S 100 41 0) i) n j ↔ opS S n j := fun j => by unfold opS; rw [e221]
  have oth : ∀ j, j < n → j ≠ i → ∀ a, a < 128 → I2 (tX j + a) = I (tX j + a) := fun j hj hji a ha => hF _ (nAl_oth hji ha)
  have oth0 : ∀ j, j < n → j ≠ i → I2 (tX j) = I (tX j) := fun j hj hji => by have := oth j hj hji 0 (by decide); rwa [Nat.add_zero] at this
  have rdo : ∀ j : Nat, j < n → j ≠ i → ∀ t y, 0 ≤ t → t < 6 → (mRead (mWantI (up2 S 100 41 0) i) j t y ↔ mRead S j t y) ∧ mWantI (up2 S 100 41 0) i 236 (6 * (j : Int) + t) = S 236 (6 * (j : Int) + t) := fun j hj hji t y t0 t1 => hm.1.oth (by omega) (by have := h.rd.1 j hj; have := h.rd.2.2; omega) ⟨t0, t1⟩
  refine h.keep hop (fun j _ => by rw [e221]) (fun o ho => hF o (nAl_fix (Or.inl ho) (by have := hi.1; omega))) (hF _ (nAl_fix (Or.inr (by omega)) (by have := hi.1; omega))) (fun j hj => ?_) (fun o ho => fo o (by omega) (by omega)) (fun k hk => f1 k (by omega)) ?_ (fun j hj => ?_) ?_ (h.ac.cut (fun y => Or.inl (by rw [e225]))) ⟨fun j hj => ?_, ?_, hq.2.2⟩ (fun j hj h1 => ?_)
  · by_cases e : j = i
    · subst e; exact ⟨hx.2.2.1, hx.1 17 (by decide) (by decide), hx.2.2.2⟩
    · have := (hV j hj).2
      exact ⟨oth j hj e 33 (by decide), by rw [oth0 j hj e], by rw [Nat.add_assoc]; exact oth j hj e _ (by omega)⟩
  · exact mWantI_MB (h.mb.u (by decide) (by decide))
  · by_cases e : j = i
    · subst e
      have t := (h.tx j hj).1
      rw [if_pos rfl]
      refine ⟨?_, hr⟩
      rw [hx.1 0 (by decide) (by decide), hx.1 1 (by decide) (by decide), hx.1 2 (by decide) (by decide), hx.1 4 (by decide) (by decide), hx.1 5 (by decide) (by decide), hx.1 6 (by decide) (by decide), fo 220 (by decide) (by decide), fo 224 (by decide) (by decide), e221, fo 222 (by decide) (by decide), e225]
      exact t
    · obtain ⟨t, r⟩ := h.tx j hj
      rw [if_neg e]
      have := (hV j hj).1
      refine ⟨?_, (r.ofI (by rw [oth0 j hj e]) (by rw [oth0 j hj e]) (by rw [Nat.add_assoc]; exact oth j hj e _ (by omega)) (by rw [Nat.add_assoc]; exact oth j hj e _ (by omega))).ofS (rdo j hj e)⟩
      rw [oth0 j hj e, fo 220 (by decide) (by decide), fo 224 (by decide) (by decide), e221, fo 222 (by decide) (by decide), e225]
      exact t
  · rw [e221, e225]; exact h.ph
  · by_cases e : j = i
    · subst e
      have := hm.2.2.2.1
      have := h.rd.1 j hj
      rcases hq.1 with a | a
      · omega
      · have := hm.2.2.2.2.2 a
        omega
    · rw [hm.1.1 j (by omega)]
      have := h.rd.1 j hj
      omega
  · exact hm.2.2.2.2.1 h.rd.2.1 (fun t y hy => YS_rg hpi h.sch.2.2.2.2.2.2.2.2.2 hy)
  · rw [e221] at h1
    by_cases e : j = i
    · subst e
      obtain ⟨p, -⟩ := h.pd j hj h1
      refine ⟨p.of ⟨fun k a b => hx.1 k (by omega) (by omega), hx.2.1⟩ (fun o a b => fo o (by omega) (by omega)) (fo 201 (by decide) (by decide)) (f1 0 (by decide)), fun t y hy => ?_⟩
      have hy' := (YS_of (S := S) (fun o a b => fo o (by omega) (by omega)) (fo 201 (by decide) (by decide)) (fo 206 (by decide) (by decide)) t y).mp hy
      have rg := YS_rg hpi h.sch.2.2.2.2.2.2.2.2.2 hy'
      exact (hm.2.1 t y rg.1 rg.2).mpr (Or.inr (Or.inr hy'))
    · obtain ⟨p, w⟩ := h.pd j hj h1
      refine ⟨p.of ⟨fun k a b => by rw [oth0 j hj e], oth j hj e 13 (by decide)⟩ (fun o a b => fo o (by omega) (by omega)) (fo 201 (by decide) (by decide)) (f1 0 (by decide)), fun t y hy => ?_⟩
      have hy' := (YS_of (S := S) (fun o a b => fo o (by omega) (by omega)) (fo 201 (by decide) (by decide)) (fo 206 (by decide) (by decide)) t y).mp hy
      have s6 := h.sch.2.1
      have rg := YS_rg ⟨p.2.1.1, by have := p.2.1.2; omega⟩ h.sch.2.2.2.2.2.2.2.2.2 hy'
      exact (rdo j hj e t y rg.1 rg.2).1.mpr (w t y hy')
/-- what a transaction is changes, but it doesn't end -/
theorem ER.sca {i : Nat} (h : ER I S n N g lv mv q) (hl : ∀ j, j < n → lv j < 15 ∧ mv j < 15) (hg : g < 10) (hi : opS S n i) (hS : ∀ o k, ¬ ((o = 221 ∨ o = 222 ∨ o = 225) ∧ k = (i : Int)) → S' o k = S o k) (hI : ∀ o k, ¬ (o = tX i ∧ (k = 4 ∨ k = 5 ∨ k = 6)) → I' o k = I o k) (e4 : I' (tX i) 4 = S' 221 i) (e5 : I' (tX i) 5 = S' 222 i) (e6 : I' (tX i) 6 = S' 225 i)
    (hp : 0 ≤ S' 221 i ∧ S' 221 i < 2) (hb : (S' 221 i = 1 → 0 ≤ S' 225 i ∧ S' 225 i < n) ∧ (S' 221 i ≠ 1 → S' 225 i = -1)) (ha : AcS S' n) (hpd : S' 221 i = 1 → PdE I S i ∧ ∀ t y, YS S i t y → mRead S i t y) : ER I' S' n N g lv mv q := by
  have n60 := h.cnt.2.2.1
  have fo : ∀ o, o ≠ 221 → o ≠ 222 → o ≠ 225 → S' o = S o := fun o a b c => funext (fun k => hS o k (fun z => by omega))
  have fi : ∀ o, o ≠ tX i → I' o = I o := fun o a => funext (fun k => hI o k (fun z => a z.1))
  have at' : ∀ o (j : Nat), j ≠ i → S' o j = S o j := fun o j hj => hS o j (fun z => by omega)
  have x0 : 2000 ≤ tX i ∧ tX i + 128 ≤ 10000 := by have := hi.1; unfold tX; omega
  have hop : ∀ j, opS S' n j ↔ opS S n j := fun j => by
    unfold opS
    by_cases e : j = i
    · subst e
      exact ⟨fun z => ⟨z.1, hi.2⟩, fun z => ⟨z.1, hp.2⟩⟩
    · rw [at' 221 j e]
  have rds : ∀ j : Int, ∀ t y, mRead S' j t y ↔ mRead S j t y := fun j t y => by
    unfold mRead
    rw [fo 233 (by decide) (by decide) (by decide), fo 234 (by decide) (by decide) (by decide), fo 235 (by decide) (by decide) (by decide), fo 236 (by decide) (by decide) (by decide)]
  have tne : ∀ j, j ≠ i → ∀ a, a < 128 → tX j + a ≠ tX i := fun j hj a ha => by unfold tX; omega
  have pdo : ∀ j, (PdE I S j ∧ ∀ t y, YS S j t y → mRead S j t y) → PdE I' S' j ∧ ∀ t y, YS S' j t y → mRead S' j t y := fun j ⟨p, w⟩ => by
    refine ⟨p.of ⟨fun k a b => hI _ k (fun z => by omega), fi _ (by unfold tX; omega)⟩ (fun o a b => fo o (by omega) (by omega) (by omega)) (fo 201 (by decide) (by decide) (by decide)) (congrFun (fo 100 (by decide) (by decide) (by decide)) 0), fun t y hy => ?_⟩
    exact (rds _ t y).mpr (w t y ((YS_of (S := S) (fun o a b => fo o (by omega) (by omega) (by omega)) (fo 201 (by decide) (by decide) (by decide)) (fo 206 (by decide) (by decide) (by decide)) t y).mp hy))
  refine h.keep hop (fun j hj => ?_) (fun o ho => fi o (by unfold erI at ho; omega)) (fi _ (by omega)) (fun j hj => ⟨fi _ (by unfold tX; omega), hI _ _ (fun z => by omega), fi _ (by have := (hl j hj).2; unfold tX; omega)⟩) (fun o ho => fo o (by omega) (by omega) (by omega)) (fun k _ => congrFun (fo 100 (by decide) (by decide) (by decide)) k) ?_ (fun j hj => ?_) (fun j hj => ?_) ha ?_ (fun j hj h1 => ?_)
  · by_cases e : j = i
    · subst e; have := hi.2; omega
    · rw [at' 221 j e]
  · have b := h.mb
    unfold MB at *
    rw [fo 201 (by decide) (by decide) (by decide), fo 202 (by decide) (by decide) (by decide), fo 206 (by decide) (by decide) (by decide), fo 211 (by decide) (by decide) (by decide), fo 214 (by decide) (by decide) (by decide), fo 223 (by decide) (by decide) (by decide), fo 236 (by decide) (by decide) (by decide), fo 100 (by decide) (by decide) (by decide)]
    exact b
  · obtain ⟨t, r⟩ := h.tx j hj
    have l15 := (hl j hj).1
    refine ⟨?_, (r.ofI (hI _ _ (fun z => by omega)) (hI _ _ (fun z => by omega)) (fi _ (by unfold tX; omega)) (fi _ (by unfold tX; omega))).ofS (fun t y _ _ => ⟨rds _ t y, by rw [fo 236 (by decide) (by decide) (by decide)]⟩)⟩
    rw [hI (tX j) 0 (fun z => by omega), hI (tX j) 1 (fun z => by omega), hI (tX j) 2 (fun z => by omega), fo 220 (by decide) (by decide) (by decide), fo 224 (by decide) (by decide) (by decide)]
    by_cases e : j = i
    · subst e
      exact ⟨t.1, t.2.1, t.2.2.1, e4, e5, e6⟩
    · have ne : tX j ≠ tX i := by have := tne j e 0 (by decide); rwa [Nat.add_zero] at this
      rw [at' 221 j e, at' 222 j e, at' 225 j e, fi _ ne]
      exact t
  · by_cases e : j = i
    · subst e; exact ⟨⟨hp.1, by omega⟩, hb⟩
    · rw [at' 221 j e, at' 225 j e]; exact h.ph j hj
  · rw [fo 233 (by decide) (by decide) (by decide), fo 234 (by decide) (by decide) (by decide)]; exact h.rd
  · by_cases e : j = i
    · subst e; exact pdo j (hpd h1)
    · rw [at' 221 j e] at h1
      exact pdo j (h.pd j hj h1)
end
