/-! a commit: all its rows -/
section
variable {S : IT} {s c : Int} {i : Nat}
/-- a row is among those that i wrote with the first m records -/
def Wm (S : IT) (i : Nat) (m : Nat) (t y : Int) : Prop := ∃ r : Nat, r < m ∧ S 246 r = 0 ∧ S 247 r = i ∧ S 248 r = t ∧ S 249 r = y
def CmS (S : IT) (i : Nat) (s c : Int) (m : Nat) (T : IT) : Prop :=
  (∀ t ρ, 0 ≤ t → t < 6 → (tIn (tbR T 4 t) (T 214 (24 + t)) ρ ↔ (Wm S i m t ρ.1 ∧ mIn S s t ρ) ∨ (¬ Wm S i m t ρ.1 ∧ mIn S 4 t ρ))) ∧
  (∀ t, 0 ≤ t → t < 6 → tUn (tbR T 4 t) (T 214 (24 + t))) ∧
  (∀ t, 0 ≤ t → t < 6 → T 214 (24 + t) = mSz S i t m ∧ 0 ≤ T 214 (24 + t)) ∧ SlF S T 4 ∧
  (∀ t y, 0 ≤ t → t < 6 → -1000 ≤ y → y ≤ 1000 → (Wm S i m t y → T 217 (2001 * t + y + 1000) = c) ∧ (¬ Wm S i m t y → T 217 (2001 * t + y + 1000) = S 217 (2001 * t + y + 1000))) ∧
  (∀ t, 0 ≤ t → t < 6 → ((∃ y, Wm S i m t y) → T 218 t = c) ∧ ((¬ ∃ y, Wm S i m t y) → T 218 t = S 218 t)) ∧
  ∀ o k, o ≠ 214 → o ≠ 215 → o ≠ 217 → o ≠ 218 → (o ≠ 100 ∨ k ≠ 16) → T o k = S o k
theorem Wm_up {m : Nat} {t y : Int} : Wm S i (m + 1) t y ↔ Wm S i m t y ∨ (S 246 m = 0 ∧ S 247 m = i ∧ S 248 m = t ∧ S 249 m = y) := by
  constructor
  · rintro ⟨r, r1, h⟩
    by_cases e : r = m
    · rw [e] at h; exact Or.inr h
    · exact Or.inl ⟨r, by omega, h⟩
  · rintro (⟨r, r1, h⟩ | h)
    · exact ⟨r, by omega, h⟩
    · exact ⟨m, by omega, h⟩
/-- never more than sixteen rows -/
theorem CmS.c16 {T : IT} {m : Nat} (h : CmS S i s c m T) (hs : RWm S s) (h4 : RWm S 4) {t : Int} (ht : 0 ≤ t ∧ t < 6) : T 214 (24 + t) ≤ 16 := by
  have h0 := (h.2.2.1 t ht.1 ht.2).2
  have nd : ((List.range (T 214 (24 + t)).toNat).map (fun r : Nat => tbR T 4 t (r : Int))).Nodup := by
    refine nodup_map_on (fun x hx y hy e => ?_) List.nodup_range
    have x1 := List.mem_range.mp hx
    have y1 := List.mem_range.mp hy
    have := h.2.1 t ht.1 ht.2 x y (by omega) (by omega) (by omega) (by omega) (congrArg Prod.fst e)
    omega
  have := nd.length_le_of_subset (l₂ := mlL S s t ++ mlL S 4 t) (fun ρ hρ => by
    obtain ⟨r, hr, e⟩ := List.mem_map.mp hρ
    have r1 := List.mem_range.mp hr
    have a := (h.1 t ρ ht.1 ht.2).mp ⟨r, by omega, by omega, e.symm⟩
    exact List.mem_append.mpr (a.imp (fun w => mem_mlL.mpr w.2) (fun w => mem_mlL.mpr w.2)))
  rw [List.length_map, List.length_range, List.length_append] at this
  have l1 : (mlL S s t).length = (S 214 (6 * s + t)).toNat := by unfold mlL; rw [List.length_map, List.length_range]
  have l2 : (mlL S 4 t).length = (S 214 (6 * 4 + t)).toNat := by unfold mlL; rw [List.length_map, List.length_range]
  have a := hs.1 t ht.1 ht.2
  have b := h4.1 t ht.1 ht.2
  omega
theorem mCm_set (hi : S 223 i = s) (hs0 : 0 ≤ s ∧ s < 4) (hs : RWm S s) (h4 : RWm S 4) (hr : ∀ j : Int, S 246 j = 0 → (0 ≤ S 248 j ∧ S 248 j < 6) ∧ -1000 ≤ S 249 j ∧ S 249 j ≤ 1000) : ∀ m : Nat, CmS S i s c m (mCm i m (up2 S 100 16 c)) ∧ mCm i m (up2 S 100 16 c) 100 16 = c := by
  intro m
  have u : ∀ o k, (o ≠ 100 ∨ k ≠ 16) → up2 S 100 16 c o k = S o k := fun o k h => if_neg (fun z => by omega)
  have hr' : ∀ j : Int, up2 S 100 16 c 246 j = 0 → 0 ≤ up2 S 100 16 c 248 j := fun j h => by
    rw [u 248 j (Or.inl (by decide))]
    rw [u 246 j (Or.inl (by decide))] at h
    exact (hr j h).1.1
  induction m with
  | zero =>
    have nW : ∀ t y, ¬ Wm S i 0 t y := fun t y ⟨r, h, _⟩ => by omega
    have e4 : ∀ o k, o ≠ 100 → mCm i 0 (up2 S 100 16 c) o k = S o k := fun o k h => u o k (Or.inl h)
    have e14 : mCm i 0 (up2 S 100 16 c) 214 = S 214 := funext (fun k => e4 214 k (by decide))
    have e15 : mCm i 0 (up2 S 100 16 c) 215 = S 215 := funext (fun k => e4 215 k (by decide))
    have et : ∀ t r, tbR (mCm i 0 (up2 S 100 16 c)) 4 t r = tbR S 4 t r := fun t r => by unfold tbR; rw [e15]
    refine ⟨⟨fun t ρ t0 t1 => ?_, fun t t0 t1 => ?_, fun t t0 t1 => ?_, ⟨fun k _ => by rw [e14], fun z _ => by rw [e15]⟩, fun t y t0 t1 y0 y1 => ⟨fun h => absurd h (nW t y), fun _ => e4 217 _ (by decide)⟩, fun t t0 t1 => ⟨fun ⟨y, h⟩ => absurd h (nW t y), fun _ => e4 218 _ (by decide)⟩, fun o k _ _ _ _ h => u o k h⟩, up2_eq _ _ _ _⟩
    · rw [e14]
      have : tIn (tbR (mCm i 0 (up2 S 100 16 c)) 4 t) (S 214 (24 + t)) ρ ↔ mIn S 4 t ρ := by
        unfold tIn mIn
        rw [show (6 * 4 + t : Int) = 24 + t by omega]
        exact ⟨fun ⟨r, a, b, e⟩ => ⟨r, a, b, by rw [e, et]; rfl⟩, fun ⟨r, a, b, e⟩ => ⟨r, a, b, by rw [e, et]; rfl⟩⟩
      rw [this]
      exact ⟨fun z => Or.inr ⟨nW _ _, z⟩, fun z => z.elim (fun w => absurd w.1 (nW _ _)) (fun w => w.2)⟩
    · rw [e14]
      intro r q r1 r2 q1 q2 h
      rw [et, et] at h
      have e24 : (6 * 4 + t : Int) = 24 + t := by omega
      exact h4.2.1 t r q t0 t1 r1 (by rw [e24]; exact r2) q1 (by rw [e24]; exact q2) h
    · rw [e14]
      have := h4.1 t t0 t1
      rw [show (6 * 4 + t : Int) = 24 + t by omega] at this
      exact ⟨rfl, this.1⟩
  | succ m ih =>
    obtain ⟨C, c16⟩ := ih
    have C' := C
    obtain ⟨d1, d2, d3, d4, d5, d6, d7⟩ := C
    by_cases g : S 246 m = 0 ∧ S 247 m = i
    · have g' : up2 S 100 16 c 246 m = 0 ∧ up2 S 100 16 c 247 m = i := ⟨(u 246 _ (Or.inl (by decide))).trans g.1, (u 247 _ (Or.inl (by decide))).trans g.2⟩
      rw [← mCm_yes g', u 248 _ (Or.inl (by decide)), u 249 _ (Or.inl (by decide))]
      generalize mCm i m (up2 S 100 16 c) = T at *
      obtain ⟨t0, y0⟩ := hr m g.1
      have e223 : T 223 i = s := (d7 223 i (by decide) (by decide) (by decide) (by decide) (Or.inl (by decide))).trans hi
      obtain ⟨sm, sw⟩ := d4.oth (q := s) (by omega) hs
      have R := mcomR_row (y := S 249 m) hs0 sw (fun t a b => ⟨⟨(d3 t a b).2, by have := C'.c16 hs h4 ⟨a, b⟩; omega⟩, d2 t a b⟩) t0
      have eM : mcom T i (S 248 m) (S 249 m) = up2 (up2 (mcomR T s (S 248 m) (S 249 m)) 217 (2001 * S 248 m + S 249 m + 1000) c) 218 (S 248 m) c := by
        unfold mcom; rw [e223, c16]
      rw [eM]
      -- what is in the one and in the other
      have oS : mfind T s (S 248 m) (S 249 m) = -1 ↔ mfind S s (S 248 m) (S 249 m) = -1 := by
        have a := mfind_in (S := T) (s := s) (y := S 249 m) sw t0
        have b := mfind_in (S := S) (s := s) (y := S 249 m) hs t0
        have e : (∃ ρ, mIn T s (S 248 m) ρ ∧ ρ.1 = S 249 m) ↔ ∃ ρ, mIn S s (S 248 m) ρ ∧ ρ.1 = S 249 m := ⟨fun ⟨ρ, x, z⟩ => ⟨ρ, (sm _ ρ t0.1 t0.2).mp x, z⟩, fun ⟨ρ, x, z⟩ => ⟨ρ, (sm _ ρ t0.1 t0.2).mpr x, z⟩⟩
        exact ⟨fun h => Classical.byContradiction (fun z => a.mpr (e.mpr (b.mp z)) h), fun h => Classical.byContradiction (fun z => b.mpr (e.mp (a.mp z)) h)⟩
      have bT : mfind T 4 (S 248 m) (S 249 m) ≠ -1 ↔ ∃ ρ : Rw4, tIn (tbR T 4 (S 248 m)) (T 214 (24 + S 248 m)) ρ ∧ ρ.1 = S 249 m := by
        have n := (d3 _ t0.1 t0.2).2
        have e24 : (6 * 4 + S 248 m : Int) = 24 + S 248 m := by omega
        constructor
        · intro h
          have B := (mf_rg (T := T) (s := 4) (t := S 248 m) (y := S 249 m) (by rw [e24]; exact n)).resolve_left h
          exact ⟨_, ⟨_, B.1, by rw [← e24]; exact B.2.1, rfl⟩, B.2.2⟩
        · rintro ⟨ρ, ⟨r, r1, r2, e⟩, hρ⟩ h
          exact (mf_none (T := T) (s := 4) (t := S 248 m) (y := S 249 m) (by rw [e24]; exact n)).mp h r r1 (by rw [e24]; exact r2) (by rw [← e]; exact hρ)
      have U := R
      generalize mcomR T s (S 248 m) (S 249 m) = V at *
      obtain ⟨u1, u2, u3, u4⟩ := U
      have q14 : up2 (up2 V 217 (2001 * S 248 m + S 249 m + 1000) c) 218 (S 248 m) c 214 = V 214 := funext (fun k => (up2_o _ _ _ _ (by decide)).trans (up2_o _ _ _ _ (by decide)))
      have q15 : up2 (up2 V 217 (2001 * S 248 m + S 249 m + 1000) c) 218 (S 248 m) c 215 = V 215 := funext (fun k => (up2_o _ _ _ _ (by decide)).trans (up2_o _ _ _ _ (by decide)))
      have qt : ∀ t, tbR (up2 (up2 V 217 (2001 * S 248 m + S 249 m + 1000) c) 218 (S 248 m) c) 4 t = tbR V 4 t := fun t => funext (fun r => by unfold tbR; rw [q15])
      have fr : ∀ o k, o ≠ 214 → o ≠ 215 → o ≠ 217 → o ≠ 218 → up2 (up2 V 217 (2001 * S 248 m + S 249 m + 1000) c) 218 (S 248 m) c o k = T o k := fun o k h1 h2 h3 h5 => by
        rw [← eM]; exact mcom_fr o k (Or.inl h1) h2 h3 h5 t0.1
      obtain ⟨u4, u5⟩ := u4
      have w : ∀ t y, Wm S i (m + 1) t y ↔ Wm S i m t y ∨ (t = S 248 m ∧ y = S 249 m) := fun t y => Wm_up.trans ⟨fun h => h.imp id (fun h => ⟨h.2.2.1.symm, h.2.2.2.symm⟩), fun h => h.imp id (fun h => ⟨g.1, g.2, h.1.symm, h.2.symm⟩)⟩
      refine ⟨⟨fun t ρ a b => ?_, fun t a b => by rw [qt, q14]; exact u2 t a b, fun t a b => ?_, ⟨fun k hk => by rw [q14]; exact (u4.1 k hk).trans (d4.1 k hk), fun z hz => by rw [q15]; exact (u4.2 z hz).trans (d4.2 z hz)⟩, fun t y a b e f => ?_, fun t a b => ?_, fun o k h1 h2 h3 h5 h6 => (fr o k h1 h2 h3 h5).trans (d7 o k h1 h2 h3 h5 h6)⟩, (fr 100 16 (by decide) (by decide) (by decide) (by decide)).trans c16⟩
      · rw [qt, q14, u1 t ρ a b, w]
        by_cases hk : t = S 248 m ∧ ρ.1 = S 249 m
        · rw [hk.1, sm _ ρ t0.1 t0.2]
          exact ⟨fun z => Or.inl ⟨Or.inr ⟨rfl, hk.2⟩, z.elim (fun w => w.2) (fun w => absurd ⟨rfl, hk.2⟩ w.1)⟩, fun z => z.elim (fun w => Or.inl ⟨⟨rfl, hk.2⟩, w.2⟩) (fun w => absurd (Or.inr ⟨rfl, hk.2⟩) w.1)⟩
        · have e : (Wm S i m t ρ.1 ∨ (t = S 248 m ∧ ρ.1 = S 249 m)) ↔ Wm S i m t ρ.1 := ⟨fun h => h.elim id (fun z => absurd z hk), Or.inl⟩
          rw [e, ← d1 t ρ a b]
          exact ⟨fun z => z.elim (fun w => absurd w.1 hk) (fun w => w.2), fun z => Or.inr ⟨hk, z⟩⟩
      · rw [q14, u3]
        obtain ⟨n1, n2⟩ := d3 t a b
        by_cases hk : t = S 248 m
        · rw [if_pos hk, ← hk]
          rw [← hk] at oS bT
          have first : mFirst S m ↔ ¬ Wm S i m t (S 249 m) := by
            unfold mFirst
            constructor
            · rintro h ⟨r, r1, r2, r3, r4, r5⟩
              exact h r (by omega) (by omega) ⟨r2, r3.trans g.2.symm, r4.trans hk, r5⟩
            · rintro h j j0 j1 ⟨r2, r3, r4, r5⟩
              exact h ⟨j.toNat, by omega, by rw [show ((j.toNat : Nat) : Int) = j by omega]; exact ⟨r2, r3.trans g.2, r4.trans hk.symm, r5⟩⟩
          have pos : mfind T 4 t (S 249 m) ≠ -1 → 1 ≤ T 214 (24 + t) := fun h => by
            obtain ⟨ρ, ⟨r, r1, r2, -⟩, -⟩ := bT.mp h
            omega
          by_cases hf : Wm S i m t (S 249 m)
          · have e : mfind T 4 t (S 249 m) ≠ -1 ↔ mfind S s t (S 249 m) ≠ -1 := by
              rw [bT, mfind_in hs ⟨a, b⟩]
              constructor
              · rintro ⟨ρ, x, z⟩
                exact ⟨ρ, ((d1 t ρ a b).mp x).elim (fun w => w.2) (fun w => absurd (by rw [z]; exact hf) w.1), z⟩
              · rintro ⟨ρ, x, z⟩
                exact ⟨ρ, (d1 t ρ a b).mpr (Or.inl ⟨by rw [z]; exact hf, x⟩), z⟩
            rw [mSz_no (fun z => first.mp z.2.2.2 hf)]
            by_cases ho : mfind S s t (S 249 m) = -1
            · have hb := Classical.byContradiction (fun z => e.mp z ho)
              rw [if_pos (oS.mpr ho), if_pos hb]; omega
            · rw [if_neg (fun z => ho (oS.mp z)), if_neg (e.mpr ho)]; omega
          · have e : mfind T 4 t (S 249 m) ≠ -1 ↔ mfind S 4 t (S 249 m) ≠ -1 := by
              rw [bT, mfind_in h4 ⟨a, b⟩]
              constructor
              · rintro ⟨ρ, x, z⟩
                exact ⟨ρ, ((d1 t ρ a b).mp x).elim (fun w => absurd (by rw [← z]; exact w.1) hf) (fun w => w.2), z⟩
              · rintro ⟨ρ, x, z⟩
                exact ⟨ρ, (d1 t ρ a b).mpr (Or.inr ⟨by rw [z]; exact hf, x⟩), z⟩
            rw [mSz_yes ⟨g.1, g.2, hk.symm, first.mpr hf⟩, hi]
            by_cases hb : mfind S 4 t (S 249 m) = -1
            · have hb' := Classical.byContradiction (fun z => e.mp z hb)
              rw [if_pos hb, if_pos hb']
              by_cases ho : mfind S s t (S 249 m) = -1
              · rw [if_pos ho, if_pos (oS.mpr ho)]; omega
              · rw [if_neg ho, if_neg (fun z => ho (oS.mp z))]; omega
            · have := pos (e.mpr hb)
              rw [if_neg hb, if_neg (e.mpr hb)]
              by_cases ho : mfind S s t (S 249 m) = -1
              · rw [if_pos ho, if_pos (oS.mpr ho)]; omega
              · rw [if_neg ho, if_neg (fun z => ho (oS.mp z))]; omega
        · rw [if_neg hk, mSz_no (fun z => hk z.2.2.1.symm)]
          exact ⟨n1, n2⟩
      · rw [up2_o _ _ _ _ (by decide), w]
        obtain ⟨x1, x2⟩ := d5 t y a b e f
        by_cases hk : t = S 248 m ∧ y = S 249 m
        · rw [hk.1, hk.2, up2_eq]
          exact ⟨fun _ => rfl, fun h => absurd (Or.inr ⟨rfl, rfl⟩) h⟩
        · rw [up2_k _ _ _ _ (fun z => hk (by omega)), u5 217 _ (by decide) (by decide)]
          exact ⟨fun h => x1 (h.elim id (fun z => absurd z hk)), fun h => x2 (fun z => h (Or.inl z))⟩
      · obtain ⟨x1, x2⟩ := d6 t a b
        by_cases hk : t = S 248 m
        · rw [hk, up2_eq]
          exact ⟨fun _ => rfl, fun h => absurd ⟨S 249 m, (w _ _).mpr (Or.inr ⟨rfl, rfl⟩)⟩ h⟩
        · rw [up2_k _ _ _ _ hk, up2_o _ _ _ _ (by decide), u5 218 _ (by decide) (by decide)]
          exact ⟨fun ⟨y, h⟩ => x1 ⟨y, ((w t y).mp h).elim id (fun z => absurd z.1 hk)⟩, fun h => x2 (fun ⟨y, z⟩ => h ⟨y, (w t y).mpr (Or.inl z)⟩)⟩
    · have g' : ¬ (up2 S 100 16 c 246 m = 0 ∧ up2 S 100 16 c 247 m = i) := fun z => g ⟨(u 246 _ (Or.inl (by decide))).symm.trans z.1, (u 247 _ (Or.inl (by decide))).symm.trans z.2⟩
      rw [← mCm_no g']
      have w : ∀ t y, Wm S i (m + 1) t y ↔ Wm S i m t y := fun t y => Wm_up.trans ⟨fun h => h.elim id (fun h => absurd ⟨h.1, h.2.1⟩ g), Or.inl⟩
      refine ⟨⟨fun t ρ a b => by rw [w]; exact d1 t ρ a b, d2, fun t a b => by rw [mSz_no (fun z => g ⟨z.1, z.2.1⟩)]; exact d3 t a b, d4, fun t y a b e f => by rw [w]; exact d5 t y a b e f, fun t a b => ?_, d7⟩, c16⟩
      have : (∃ y, Wm S i (m + 1) t y) ↔ ∃ y, Wm S i m t y := ⟨fun ⟨y, h⟩ => ⟨y, (w t y).mp h⟩, fun ⟨y, h⟩ => ⟨y, (w t y).mpr h⟩⟩
      rw [this]; exact d6 t a b
end
