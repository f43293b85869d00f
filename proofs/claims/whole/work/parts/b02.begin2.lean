/-! a transaction begins: the relation -/
section
variable {I I' S : IT} {n N g : Nat} {lv mv lv' mv' : Nat → Nat} {q x : Int}
/-- the class's numbers behind a beginning -/
def BegI (I I' : IT) (n : Nat) (x : Int) : Prop := (∀ o, ¬ nTx n o → o ≠ 1448 → ¬ (12100 ≤ o ∧ o < 12120) → I' o = I o) ∧ (I' (tX n) 0 = n ∧ I' (tX n) 1 = x ∧ I' (tX n) 2 = I 1064 7 ∧ I' (tX n) 4 = 0 ∧ I' (tX n) 5 = -1 ∧ I' (tX n) 6 = -1) ∧ (I' (tX n) 13 = 0 ∧ I' (tX n) 14 = 0 ∧ I' (tX n) 17 = 0) ∧ ∀ z, 0 ≤ z → z < 192 → I' (tX n + 33) z = I 1161 z
noncomputable def mBegin (S : IT) (x : Int) : IT := mBgT (mFree S) 6 (mBg0 S (mFree S) x)
theorem ER.begin (h : ER I S n N g lv mv q) (hl : ∀ j, j < n → lv j < 15 ∧ mv j < 15) (hg : g < 10) (hn : n < 60) (hf : mTakenN S ≠ 4) (hq : 4 * (n : Int) ≤ q ∧ q + 4 ≤ 2048) (hz : S 233 n = 0 ∧ ∀ t, 0 ≤ t → t < 6 → S 236 (6 * (n : Int) + t) = 0) (hI : BegI I I' n x) (hlv : ∀ j, j < n → lv' j = lv j ∧ mv' j = mv j) : ER I' (mBegin S x) (n + 1) N g lv' mv' (q + 4) := by
  obtain ⟨c1, ⟨i0, i1, i2, i4, i5, i6⟩, ⟨i13, i14, i17⟩, i33⟩ := hI
  have n60 := h.cnt.2.2.1
  have h19 := h.cnt.1
  obtain ⟨f0, f4⟩ := mFree_rg hf
  have x0 : 2000 ≤ tX n ∧ tX n + 128 ≤ 10000 := by unfold tX; omega
  have ff : S 226 (mFree S) = 0 := by
    rcases fs_spec (fun j => S 226 j = 0) 4 0 with ⟨e, -⟩ | ⟨-, -, e, -⟩
    · unfold mFree at f0; omega
    · exact e
  unfold mBegin
  generalize mFree S = f at *
  -- the reference's frames
  have z0 : ∀ o k, (o < 220 ∨ 226 < o) → (o ≠ 100 ∨ k ≠ 19) → mBg0 S f x o k = S o k := fun o k a b => by
    unfold mBg0
    rw [up2_o _ _ _ _ (by omega), up2_o _ _ _ _ (by omega), up2_o _ _ _ _ (by omega), up2_o _ _ _ _ (by omega), up2_o _ _ _ _ (by omega), up2_o _ _ _ _ (by omega), up2_o _ _ _ _ (by omega)]
    exact if_neg (fun z => by omega)
  have zn : ∀ o v, (mBg0 S f x o n = v → mBg0 S f x o n = v) := fun _ _ => id
  have zj : ∀ o (j : Int), 220 ≤ o → o ≤ 225 → j ≠ n → mBg0 S f x o j = S o j := fun o j a b e => by
    have e' : j ≠ S 100 19 := by rw [h19]; exact e
    unfold mBg0
    rw [up2_o _ _ _ _ (by omega)]
    exact (if_neg (fun z => e' z.2)).trans ((if_neg (fun z => e' z.2)).trans ((if_neg (fun z => e' z.2)).trans ((if_neg (fun z => e' z.2)).trans ((if_neg (fun z => e' z.2)).trans ((if_neg (fun z => e' z.2)).trans (up2_o _ _ _ _ (by omega)))))))
  have z26 : ∀ p : Int, mBg0 S f x 226 p = if p = f then 1 else S 226 p := fun p => by
    unfold mBg0
    by_cases e : p = f
    · rw [if_pos e, e, up2_eq]
    · rw [if_neg e, up2_k _ _ _ _ e, up2_o _ _ _ _ (by decide), up2_o _ _ _ _ (by decide), up2_o _ _ _ _ (by decide), up2_o _ _ _ _ (by decide), up2_o _ _ _ _ (by decide), up2_o _ _ _ _ (by decide), up2_o _ _ _ _ (by decide)]
  have own : mBg0 S f x 220 n = x ∧ mBg0 S f x 221 n = 0 ∧ mBg0 S f x 222 n = -1 ∧ mBg0 S f x 223 n = f ∧ mBg0 S f x 224 n = S 100 16 ∧ mBg0 S f x 225 n = -1 ∧ mBg0 S f x 100 19 = ((n + 1 : Nat) : Int) := by
    unfold mBg0
    rw [h19]
    refine ⟨?_, ?_, ?_, ?_, ?_, ?_, ?_⟩
    · rw [up2_o _ _ _ _ (by decide), up2_o _ _ _ _ (by decide), up2_o _ _ _ _ (by decide), up2_o _ _ _ _ (by decide), up2_o _ _ _ _ (by decide), up2_o _ _ _ _ (by decide), up2_eq]
    · rw [up2_o _ _ _ _ (by decide), up2_o _ _ _ _ (by decide), up2_o _ _ _ _ (by decide), up2_o _ _ _ _ (by decide), up2_o _ _ _ _ (by decide), up2_eq]
    · rw [up2_o _ _ _ _ (by decide), up2_o _ _ _ _ (by decide), up2_o _ _ _ _ (by decide), up2_o _ _ _ _ (by decide), up2_eq]
    · rw [up2_o _ _ _ _ (by decide), up2_o _ _ _ _ (by decide), up2_o _ _ _ _ (by decide), up2_eq]
    · rw [up2_o _ _ _ _ (by decide), up2_o _ _ _ _ (by decide), up2_eq]
    · rw [up2_o _ _ _ _ (by decide), up2_eq]
    · rw [up2_o _ _ _ _ (by decide), up2_o _ _ _ _ (by decide), up2_o _ _ _ _ (by decide), up2_o _ _ _ _ (by decide), up2_o _ _ _ _ (by decide), up2_o _ _ _ _ (by decide), up2_o _ _ _ _ (by decide), up2_eq]; omega
  have z14 : mBg0 S f x 214 = S 214 := funext (fun k => z0 214 k (by decide) (Or.inl (by decide)))
  have z15 : mBg0 S f x 215 = S 215 := funext (fun k => z0 215 k (by decide) (Or.inl (by decide)))
  have st := h.st
  have h8 : ∀ t, 0 ≤ t → t < 6 → 0 ≤ mBg0 S f x 214 (24 + t) ∧ mBg0 S f x 214 (24 + t) ≤ 8 := fun t t0 t1 => by
    have := st.2.1.1 t t0 t1
    rw [show (6 * 4 + t : Int) = 24 + t by omega] at this
    rw [z14]; exact this
  have B := mBgT_set (S := mBg0 S f x) (f := f) ⟨f0, f4⟩ h8 6 (by decide)
  have h4' : RWm (mBg0 S f x) 4 := st.2.1.of (fun k => congrFun z14 k) (fun k => congrFun z15 k)
  obtain ⟨br, bm, bs⟩ := bg_rows (s := 0) B ⟨f0, f4⟩ h4'
  obtain ⟨-, -, -, bo⟩ := B
  generalize mBgT f 6 (mBg0 S f x) = T at *
  have fo : ∀ o, (o < 214 ∨ (215 < o ∧ o < 220) ∨ 226 < o) → o ≠ 100 → T o = S o := fun o a b => funext (fun k => (bo o k (by omega) (by omega)).trans (z0 o k (by omega) (Or.inl b)))
  have f1 : ∀ k, k ≠ 19 → T 100 k = S 100 k := fun k hk => (bo 100 k (by decide) (by decide)).trans (z0 100 k (by decide) (Or.inr hk))
  have tj : ∀ o (j : Nat), 220 ≤ o → o ≤ 225 → j < n → T o j = S o j := fun o j a b hj => (bo o j (by omega) (by omega)).trans (zj o j a b (by omega))
  have tn : ∀ o, 220 ≤ o → o ≤ 225 → T o n = mBg0 S f x o n := fun o a b => bo o n (by omega) (by omega)
  have t26 : ∀ p : Int, T 226 p = if p = f then 1 else S 226 p := fun p => (bo 226 p (by decide) (by decide)).trans (z26 p)
  have sl : SlF S T f := by unfold SlF at *; rw [z14, z15] at bs; exact bs
  have hop : ∀ j, opS T (n + 1) j ↔ opS S n j ∨ j = n := fun j => by
    unfold opS
    by_cases e : j = n
    · subst e
      rw [tn 221 (by decide) (by decide), own.2.1]
      exact ⟨fun _ => Or.inr rfl, fun _ => ⟨by omega, by decide⟩⟩
    · constructor
      · rintro ⟨a, b⟩
        rw [tj 221 j (by decide) (by decide) (by omega)] at b
        exact Or.inl ⟨by omega, b⟩
      · rintro (⟨a, b⟩ | c)
        · exact ⟨by omega, by rw [tj 221 j (by decide) (by decide) a]; exact b⟩
        · exact absurd c e
  -- no other has the place
  have pl : ∀ j, opS S n j → S 223 j ≠ f := fun j hj e => by
    have := (h.sl.2 f f0 f4).mpr ⟨j, hj, e⟩
    exact this ff
  have wR : ∀ r j t y, wrR T r j t y ↔ wrR S r j t y := fun r j t y => wrR_of (fun o a b => fo o (by omega) (by omega)) (f1 44 (by decide))
  -- the class's frames
  have cx : ∀ o, (o < 1448 ∨ (1448 < o ∧ o < 2000) ∨ (10000 ≤ o ∧ o < 12100)) → I' o = I o := fun o ho => c1 o (by unfold nTx; omega) (by omega) (by omega)
  have fx : ∀ o, erI o → I' o = I o := fun o ho => cx o (by unfold erI at ho; omega)
  have ctx : ∀ j, j < n → ∀ a, a < 128 → I' (tX j + a) = I (tX j + a) := fun j hj a ha => c1 _ (by unfold nTx tX; omega) (by unfold tX; omega) (by unfold tX; omega)
  have ctx0 : ∀ j, j < n → I' (tX j) = I (tX j) := fun j hj => ctx j hj 0 (by decide)
  have lgI : ∀ (r : Int) k, lgF I' g r k = lgF I g r k := fun r k => by unfold lgF; rw [cx _ (by omega)]
  have rds : ∀ j : Int, ∀ t y, mRead T j t y ↔ mRead S j t y := fun j t y => by
    unfold mRead
    rw [fo 233 (by omega) (by decide), fo 234 (by omega) (by decide), fo 235 (by omega) (by decide), fo 236 (by omega) (by decide)]
  have okS : ∀ t ρ, rowOk T t ρ ↔ rowOk S t ρ := fun t ρ => rowOk_of (fun k => by rw [fo 202 (by omega) (by decide)]) (fun k => by rw [fo 203 (by omega) (by decide)]) (fun k => by rw [fo 204 (by omega) (by decide)]) (fun k => by rw [fo 205 (by omega) (by decide)])
  have slot : ∀ p : Int, p ≠ f → RWm S p → (∀ t ρ, 0 ≤ t → t < 6 → (mIn T p t ρ ↔ mIn S p t ρ)) ∧ RWm T p := fun p hp hw => sl.oth hp hw
  obtain ⟨⟨sb1, sb2⟩, sb3, sb4⟩ := st
  have m4 : ∀ t ρ, mIn (mBg0 S f x) 4 t ρ ↔ mIn S 4 t ρ := fun t ρ => mIn_of (fun k => congrFun z14 k) (fun k => congrFun z15 k)
  have fpn : ∀ z, ¬ FpS I' n (mv' n) z := fun z ⟨p, p0, p1, _⟩ => by rw [i17] at p1; omega
  have wr0 : ∀ r t y, ¬ wrR S r n t y := fun r t y w => by
    have := (h.lr.1 r w.1 (by have := w.2.1; have := h.cnt.2.1; omega)).2 (by have := w.2.2.1; omega)
    have := w.2.2.2.1
    omega
  refine ⟨⟨(h.sch.1.of (fun o ho => fx o (by unfold erI; omega))).ofS (fun o k ho => by rcases ho with a | ⟨rfl, a⟩; exact congrFun (fo o (by omega) (by omega)) k; exact f1 k (by omega)), h.sch.2.of (fun o k ho => by rcases ho with a | ⟨rfl, a⟩; exact congrFun (fo o (by omega) (by omega)) k; exact f1 k (by omega))⟩, ?_, ⟨(bo 100 19 (by decide) (by decide)).trans own.2.2.2.2.2.2, (f1 44 (by decide)).trans h.cnt.2.1, by omega, h.cnt.2.2.2⟩, fun j hj => ?_, fun j hj => ?_, ?_, ⟨fun a b ha hb e => ?_, fun p p0 p1 => ?_⟩, fun j hj => ?_, ?_, ?_, ?_, ?_, ?_, ?_, ?_, ⟨fun z z0 z1 => ?_, fun j hj t y t0 t1 y0 y1 => ?_⟩, fun j hj => ?_, fun j hj r t y h1 h3 c c0 c'1 => ?_, ⟨fun j r t y hj h21 h1 h3 c c0 c'1 => ?_, fun t y t0 t1 h1 => ?_⟩, ⟨fun j hj => ?_, ?_, hq.2⟩, fun j hj h1 => ?_⟩
  · -- mb
    obtain ⟨b1, b2, b3, b4, b5, b6, b7, b8, b9, b10⟩ := h.mb
    refine ⟨by rw [f1 0 (by decide)]; exact b1, fun t => by rw [fo 201 (by omega) (by decide)]; exact b2 t, fun t => by rw [fo 202 (by omega) (by decide)]; exact b3 t, fun k => by rw [fo 206 (by omega) (by decide)]; exact b4 k, by rw [f1 8 (by decide)]; exact b5, fun k => by rw [fo 211 (by omega) (by decide)]; exact b6 k, fun k => ?_, by rw [bo 100 19 (by decide) (by decide), own.2.2.2.2.2.2]; omega, fun j => ?_, fun k => by rw [fo 236 (by omega) (by decide)]; exact b10 k⟩
    · by_cases c : 6 * f ≤ k ∧ k < 6 * f + 6
      · have := bm.1 (k - 6 * f) (by omega) (by omega)
        rw [show 6 * f + (k - 6 * f) = k by omega] at this
        exact this
      · rw [sl.1 k c]; exact b7 k
    · by_cases e : j = n
      · rw [e, tn 223 (by decide) (by decide), own.2.2.2.1]; exact ⟨f0, f4⟩
      · rw [bo 223 j (by decide) (by decide), zj 223 j (by decide) (by decide) e]; exact b9 j
  · -- tx
    by_cases e : j = n
    · subst e
      refine ⟨?_, fun t t0 t1 => ?_, fun t y t0 t1 => ?_⟩
      · rw [i0, i1, i2, i4, i5, i6, tn 220 (by decide) (by decide), tn 224 (by decide) (by decide), tn 221 (by decide) (by decide), tn 222 (by decide) (by decide), tn 225 (by decide) (by decide), own.1, own.2.1, own.2.2.1, own.2.2.2.2.1, own.2.2.2.2.2.1]
        exact ⟨rfl, rfl, h.sp.1.2.2, rfl, rfl, rfl⟩
      · rw [whOf_iff, i13, fo 236 (by omega) (by decide), hz.2 t t0 t1, Int.zero_ediv]
        exact ⟨fun z => by omega, fun z => by omega⟩
      · have nw : ¬ whOf I' j t := fun z => by rw [whOf_iff, i13, Int.zero_ediv] at z; omega
        have nr : ¬ rdOf I' j (lv' j) t y := fun z => by
          obtain ⟨p, p0, p1, -⟩ := rdOf_iff.mp z
          rw [i14] at p1; omega
        have nm : ¬ mRead T j t y := fun z => by
          rcases (rds _ _ _).mp z with w | ⟨p, p0, p1, -⟩
          · rw [hz.2 t t0 t1] at w; omega
          · rw [hz.1] at p1; omega
        exact ⟨fun z => z.elim (fun w => absurd w nw) (fun w => absurd w nr), fun z => absurd z nm⟩
    · have hj' : j < n := by omega
      obtain ⟨t, r⟩ := h.tx j hj'
      have l15 := (hl j hj').1
      rw [(hlv j hj').1]
      refine ⟨?_, (r.ofI (by rw [ctx0 j hj']) (by rw [ctx0 j hj']) (by rw [Nat.add_assoc]; exact ctx j hj' _ (by omega)) (by rw [Nat.add_assoc]; exact ctx j hj' _ (by omega))).ofS (fun t y _ _ => ⟨rds _ t y, by rw [fo 236 (by omega) (by decide)]⟩)⟩
      rw [ctx0 j hj', tj 220 j (by decide) (by decide) hj', tj 224 j (by decide) (by decide) hj', tj 221 j (by decide) (by decide) hj', tj 222 j (by decide) (by decide) hj', tj 225 j (by decide) (by decide) hj']
      exact t
  · -- ph
    by_cases e : j = n
    · subst e
      rw [tn 221 (by decide) (by decide), tn 225 (by decide) (by decide), own.2.1, own.2.2.2.2.2.1]
      exact ⟨by omega, fun z => by omega, fun _ => rfl⟩
    · have hj' : j < n := by omega
      rw [tj 221 j (by decide) (by decide) hj', tj 225 j (by decide) (by decide) hj']
      obtain ⟨a, b, c⟩ := h.ph j hj'
      exact ⟨a, fun z => by have := b z; omega, c⟩
  · -- ac
    intro j k hj hk z
    have e25 : ∀ y : Int, y ≠ n → T 225 y = S 225 y := fun y hy => (bo 225 y (by decide) (by decide)).trans (zj 225 y (by decide) (by decide) hy)
    have n25 : T 225 n = -1 := (tn 225 (by decide) (by decide)).trans own.2.2.2.2.2.1
    by_cases e : j = n
    · subst e
      cases k with
      | zero => omega
      | succ k =>
        have : itw T (k + 1) j = itw T k (T 225 j) := if_neg (by omega)
        rw [this, n25, itw_none] at z
        omega
    · have hj' : j < n := by omega
      have := itw_same (S := S) (S' := T) (i := n) e25 k (j : Int) (fun u _ => by
        have := itw_rg h.wf u (j : Int) (Or.inr ⟨by omega, by omega⟩)
        omega)
      rw [this] at z
      exact h.ac j k hj' hk z
  · -- places
    rcases (hop a).mp ha with a' | a'
    · rw [tj 223 a (by decide) (by decide) a'.1] at e
      rcases (hop b).mp hb with b' | b'
      · rw [tj 223 b (by decide) (by decide) b'.1] at e
        exact h.sl.1 a b a' b' e
      · rw [b', tn 223 (by decide) (by decide), own.2.2.2.1] at e
        exact absurd e (pl a a')
    · rw [a', tn 223 (by decide) (by decide), own.2.2.2.1] at e
      rcases (hop b).mp hb with b' | b'
      · rw [tj 223 b (by decide) (by decide) b'.1] at e
        exact absurd e.symm (pl b b')
      · rw [a', b']
  · rw [t26]
    by_cases e : p = f
    · rw [if_pos e]
      exact ⟨fun _ => ⟨n, (hop n).mpr (Or.inr rfl), by rw [tn 223 (by decide) (by decide), own.2.2.2.1, e]⟩, fun _ => by decide⟩
    · rw [if_neg e, h.sl.2 p p0 p1]
      constructor
      · rintro ⟨j, hj, e2⟩
        exact ⟨j, (hop j).mpr (Or.inl hj), by rw [tj 223 j (by decide) (by decide) hj.1]; exact e2⟩
      · rintro ⟨j, hj, e2⟩
        rcases (hop j).mp hj with j' | j'
        · exact ⟨j, j', by rw [← tj 223 j (by decide) (by decide) j'.1]; exact e2⟩
        · rw [j', tn 223 (by decide) (by decide), own.2.2.2.1] at e2
          exact absurd e2.symm e
  · -- own
    rcases (hop j).mp hj with j' | j'
    · obtain ⟨⟨a, b⟩, c, d⟩ := h.own j j'
      obtain ⟨m1, m2⟩ := slot _ (pl j j') c
      rw [tj 223 j (by decide) (by decide) j'.1]
      have e33 := ctx j j'.1 33 (by decide)
      refine ⟨⟨fun t ρ t0 t1 => ?_, b.of (fun z _ _ => by rw [e33])⟩, m2, fun t ρ t0 t1 hρ => (okS t ρ).mpr (d t ρ t0 t1 ((m1 t ρ t0 t1).mp hρ))⟩
      rw [m1 t ρ t0 t1]
      exact (a.of (fun z _ _ => by rw [e33])) t ρ t0 t1
    · subst j'
      rw [tn 223 (by decide) (by decide), own.2.2.2.1]
      refine ⟨⟨fun t ρ t0 t1 => ?_, sb2.of i33⟩, bm, fun t ρ t0 t1 hρ => (okS t ρ).mpr (sb4 t ρ t0 t1 ((m4 t ρ).mp ((br t ρ t0 t1).mp hρ)))⟩
      rw [br t ρ t0 t1, m4 t ρ]
      exact (sb1.of i33) t ρ t0 t1
  · -- st
    obtain ⟨m1, m2⟩ := slot 4 (by omega) sb3
    have e61 := fx 1161 (by unfold erI; omega)
    refine ⟨⟨fun t ρ t0 t1 => ?_, sb2.of (fun z _ _ => by rw [e61])⟩, m2, fun t ρ t0 t1 hρ => (okS t ρ).mpr (sb4 t ρ t0 t1 ((m1 t ρ t0 t1).mp hρ))⟩
    rw [m1 t ρ t0 t1]
    exact (sb1.of (fun z _ _ => by rw [e61])) t ρ t0 t1
  · -- sp
    have z := h.sp
    rw [fo 217 (by omega) (by decide), fo 218 (by omega) (by decide), f1 16 (by decide), f1 45 (by decide), fx 1070 (by unfold erI; omega), fx 1071 (by unfold erI; omega), fx 1064 (by unfold erI; omega)]
    refine ⟨z.1, z.2.1, z.2.2.1, z.2.2.2.1, fun j hj => ?_⟩
    by_cases e : j = n
    · rw [e, tn 224 (by decide) (by decide), own.2.2.2.2.1]; exact Int.le_refl _
    · rw [tj 224 j (by decide) (by decide) (by omega)]; exact z.2.2.2.2 j (by omega)
  · rw [fx 1192 (by unfold erI; omega), f1 45 (by decide)]
    refine ⟨h.lg.1, fun r hr => ?_⟩
    rw [lgI, lgI, lgI, lgI, fo 246 (by omega) (by decide), fo 247 (by omega) (by decide), fo 248 (by omega) (by decide), fo 249 (by omega) (by decide)]
    exact h.lg.2 r hr
  · rw [fo 246 (by omega) (by decide), fo 247 (by omega) (by decide), fo 248 (by omega) (by decide), fo 249 (by omega) (by decide)]
    refine ⟨fun r r0 r1 => ?_, h.lr.2⟩
    obtain ⟨a, b⟩ := h.lr.1 r r0 r1
    exact ⟨a, fun z => by have := b z; omega⟩
  · rw [fo 246 (by omega) (by decide), fo 247 (by omega) (by decide)]
    refine ⟨fun j hj r r0 r1 hw => ?_, fun j hj => ?_⟩
    · rcases (hop j).mp hj with j' | j'
      · exact h.lo.1 j j' r r0 r1 hw
      · rw [j'] at hw
        obtain ⟨a, b⟩ := h.lr.1 r r0 r1
        exact Classical.byContradiction (fun z => by have := b (fun w => z (Or.inr w)); omega)
    · by_cases e : j = n
      · subst e
        rw [tn 221 (by decide) (by decide), own.2.1]
        refine ⟨fun z => by omega, fun ⟨r, r0, r1, r2, r3⟩ => ?_⟩
        have := (h.lr.1 r r0 r1).2 (by omega)
        omega
      · rw [tj 221 j (by decide) (by decide) (by omega)]; exact h.lo.2 j (by omega)
  · rw [fo 246 (by omega) (by decide), fo 247 (by omega) (by decide)]; exact h.le
  · intro j hj r p t y k hr h1 h3
    rcases (hop j).mp hj with j' | j'
    · exact h.l3 j j' r p t y k hr ((wR _ _ _ _).mp h1) ((wR _ _ _ _).mp h3)
    · rw [j'] at h1
      exact absurd ((wR _ _ _ _).mp h1) (wr0 _ _ _)
  · rw [fx 1069 (by unfold erI; omega)]
    rcases h.wr.1 z z0 z1 with w | ⟨j, a, b⟩
    · exact Or.inl w
    · exact Or.inr ⟨j, (hop j).mpr (Or.inl a), b⟩
  · rw [fx 1069 (by unfold erI; omega)]
    have : (∃ r, wrR T r j t y) ↔ ∃ r, wrR S r j t y := ⟨fun ⟨r, a⟩ => ⟨r, (wR _ _ _ _).mp a⟩, fun ⟨r, a⟩ => ⟨r, (wR _ _ _ _).mpr a⟩⟩
    rw [this]
    rcases (hop j).mp hj with j' | j'
    · exact h.wr.2 j j' t y t0 t1 y0 y1
    · subst j'
      obtain ⟨-, z0, z1⟩ := fpO_in ⟨t0, t1⟩ ⟨y0, y1⟩
      refine ⟨fun z => ?_, fun ⟨r, w⟩ => absurd w (wr0 _ _ _)⟩
      rcases h.wr.1 _ z0 z1 with w | ⟨k, a, b⟩
      · omega
      · have := a.1; omega
  · rcases (hop j).mp hj with j' | j'
    · obtain ⟨a, b⟩ := h.fp j j'
      have m15 := (hl j j'.1).2
      rw [ctx0 j j'.1, (hlv j j'.1).2]
      refine ⟨fun z z0 z1 => ?_, b⟩
      have : FpS I' j (mv j) z ↔ FpS I j (mv j) z := by
        unfold FpS
        rw [ctx0 j j'.1, show I' (tX j + 80 + mv j) = I (tX j + 80 + mv j) by rw [Nat.add_assoc]; exact ctx j j'.1 _ (by omega)]
      rw [this, fx 1069 (by unfold erI; omega)]
      exact a z z0 z1
    · subst j'
      refine ⟨fun z z0 z1 => ⟨fun w => absurd w (fpn z), fun w => ?_⟩, by rw [i17]; omega⟩
      rw [fx 1069 (by unfold erI; omega)] at w
      rcases h.wr.1 z z0 z1 with v | ⟨k, a, b⟩
      · omega
      · have := a.1; omega
  · have h1' := (wR _ _ _ _).mp h1
    rcases (hop j).mp hj with j' | j'
    · rw [lgI, rwCell_of (ctx j j'.1 33 (by decide))]
      exact h.v1 j j' r t y h1' (fun p hp z => h3 p hp ((wR _ _ _ _).mpr z)) c c0 c'1
    · rw [j'] at h1'
      exact absurd h1' (wr0 _ _ _)
  · have h1' := (wR _ _ _ _).mp h1
    have e : j ≠ n := fun z => by rw [z] at h1'; exact wr0 _ _ _ h1'
    rw [tj 221 j (by decide) (by decide) (by omega)] at h21
    rw [lgI, rwCell_of (fx 1161 (by unfold erI; omega))]
    exact h.v2.1 j r t y (by omega) h21 h1' (fun p k hp hk h22 z => h3 p k hp (by omega) (by rw [tj 221 k (by decide) (by decide) hk]; exact h22) ((wR _ _ _ _).mpr z)) c c0 c'1
  · rw [(rwF_of (fx 1161 (by unfold erI; omega)) t y).2]
    exact h.v2.2 t y t0 t1 (fun p k hk h22 z => h1 p k (by omega) (by rw [tj 221 k (by decide) (by decide) hk]; exact h22) ((wR _ _ _ _).mpr z))
  · rw [fo 233 (by omega) (by decide)]
    by_cases e : j = n
    · rw [e, hz.1]; omega
    · have := h.rd.1 j (by omega)
      omega
  · rw [fo 234 (by omega) (by decide)]; exact h.rd.2.1
  · have e : j ≠ n := fun z => by rw [z, tn 221 (by decide) (by decide), own.2.1] at h1; omega
    have hj' : j < n := by omega
    rw [tj 221 j (by decide) (by decide) hj'] at h1
    obtain ⟨p, w⟩ := h.pd j hj' h1
    refine ⟨p.of ⟨fun k _ _ => by rw [ctx0 j hj'], ctx j hj' 13 (by decide)⟩ (fun o a b => fo o (by omega) (by omega)) (fo 201 (by omega) (by decide)) (f1 0 (by decide)), fun t y hy => ?_⟩
    exact (rds _ t y).mpr (w t y ((YS_of (S := S) (fun o a b => fo o (by omega) (by omega)) (fo 201 (by omega) (by decide)) (fo 206 (by omega) (by decide)) t y).mp hy))
end
