/-! a delete carried out: class and reference have the same rows -/
section
variable {A S G : IT} {i : Nat} {s : Int}
theorem q4_key {f : Int → Int} {b : Int} {ρ : Rw4} (h : q4 f b = ρ) : f b = ρ.1 := by rw [← h]
theorem rowOk_del {X : IT} (hS : SSch S) {t : Int} {ρ : Rw4} (ht : 0 ≤ t ∧ t < 6) (h : rowOk S t ρ) : rowOk S t (delR S X s t ρ) := by
  intro j j0 j1
  have cc := hS.2.2.2.2.1 t j ht.1 ht.2 j0 j1
  have wid := hS.wid ht
  rw [g4_del ⟨cc.1, by omega⟩]
  split
  · rw [cmp3_n (Or.inl rfl)]; decide
  · exact h j j0 j1
theorem del_ref {W : IT} (h : DlH A S i s G) (hb : ∀ t, S 201 t ≤ 4) (fW : ∀ o k, (o = 201 ∨ o = 206 ∨ o = 207 ∨ o = 214 ∨ o = 215 ∨ o = 239) → W o k = dX S i s o k) (e240 : ∀ k, 0 ≤ k → k < 384 → (W 240 k ≠ 0 ↔ mRowIn (dX S i s) s k ∧ dX S i s 239 k = 0 ∧ mRefers (dX S i s) s (k.tdiv 64) (k.tmod 64) 2)) :
    (∀ t ρ', 0 ≤ t → t < 6 → (mIn (mDeletes W s) s t ρ' ↔ ∃ ρ, mIn S s t ρ ∧ ¬ Gn S (dX S i s) s t ρ.1 ∧ ρ' = delR S (dX S i s) s t ρ)) ∧ RWm (mDeletes W s) s ∧ SlF S (mDeletes W s) s := by
  obtain ⟨-, -, -, d4, -, -, -, -⟩ := dl_set h
  have hm := h.1.2.2.2.1.1
  have hS := h.1.1.2
  have h206 := hS.2.2.2.2.2.2.2.2
  have eW : ∀ o, (o = 201 ∨ o = 206 ∨ o = 207 ∨ o = 214 ∨ o = 215) → W o = S o := fun o a => funext (fun k => (fW o k (by omega)).trans (d4 o k (by omega) (by omega)))
  have e201 := eW 201 (by decide)
  have e206 := eW 206 (by decide)
  have e207 := eW 207 (by decide)
  have e214 := eW 214 (by decide)
  have e215 := eW 215 (by decide)
  have e239 : W 239 = dX S i s 239 := funext (fun k => fW 239 k (by omega))
  have x214 : dX S i s 214 = S 214 := funext (fun k => d4 214 k (by decide) (by decide))
  have em : ∀ t y, mfind W s t y = mfind S s t y := fun t y => by unfold mfind; rw [e214, e215]
  have h4 : ∀ t, W 201 t ≤ 4 := fun t => by rw [e201]; exact hb t
  have hgo : ∀ j : Int, 0 ≤ j → j < 384 → W 239 j ≠ 0 → j % 64 < S 214 (6 * s + j / 64) := fun j j0 j1 hj => by
    have hY := (dl_set h).2.2.2.2.2.2.2
    have hp := dl_set h
    obtain ⟨q1, q2, q3, q4, q5⟩ := rowIn_ix hm h.1.t6 hp.1 hp.2.1
    have := hY (fun k => mRowIn S s k) q5 (fun k _ _ z => z.1) j j0 j1 (by rw [← e239]; exact hj)
    obtain ⟨u1, u2⟩ := ix_of j0 j1
    unfold mRowIn at this
    rw [u1, u2] at this
    exact this
  have hV := mBl_set (s := s) h4 384 (Nat.le_refl _)
  have fV : ∀ o, o ≠ 215 → mBl s 384 W o = W o := fun o ho => funext (fun k => mBl_fr 384 o k ho)
  obtain ⟨⟨a, f, b, c, d⟩, e⟩ := mTk_set (s := s) 384 (mBl s 384 W) (Nat.le_refl _) (fun t t0 t1 => by rw [fV 214 (by decide), e214]; have := hm.1 t t0 t1; omega) (fun j j0 j1 hj => by
    rw [fV 239 (by decide)] at hj
    rw [fV 214 (by decide), e214]
    exact hgo j j0 (by omega) hj)
  rw [show mTk s 384 (mBl s 384 W) = mDeletes W s from rfl] at a b c d e
  simp only [fV 214 (by decide), fV 239 (by decide), e214, e239] at a b c d
  -- a row that stays
  have row : ∀ t r, 0 ≤ t → t < 6 → 0 ≤ r → r < S 214 (6 * s + t) → dX S i s 239 (64 * t + r) = 0 → ∀ x, 0 ≤ x → x < 4 → mBl s 384 W 215 (mrow s t r + x) = g4 (delR S (dX S i s) s t (q4 (S 215) (mrow s t r))) x := by
    intro t r t0 t1 r0 r1 hg x x0 x1
    have h8 := hm.1 t t0 t1
    obtain ⟨k1, k2, k3, k4, k5⟩ := rowIn_ix hm ⟨t0, t1⟩ r0 r1
    have hin : mRowIn (dX S i s) s (64 * t + r) := by unfold mRowIn at *; rw [x214]; exact k5
    rw [hV, g4_del ⟨x0, x1⟩, g4_q ⟨x0, x1⟩, e215]
    have : blZ W s (384 : Nat) (mrow s t r + x) ↔ (refG S (dX S i s) s t x (S 215 (mrow s t r + x)) ∧ S 207 (4 * t + x) = 2) := by
      unfold blZ
      constructor
      · rintro ⟨k, c', kk0, kk1, k240, c0, c1, ez, e7, hbr⟩
        have wid := h4 (k / 64)
        have e1 : k / 64 = t := by unfold mrow at ez; omega
        have e2 : k % 64 = r := by unfold mrow at ez; omega
        have e3 : c' = x := by unfold mrow at ez; omega
        subst e1; subst e2; subst e3
        unfold mBroken at hbr
        rw [e206, e215, e239] at hbr
        obtain ⟨y1, y2, y3, y4⟩ := hbr
        rw [em] at y3 y4
        have tg := (h206 _).resolve_left y1
        have hmf := (mfnd_rg (y := S 215 (mrow s (k / 64) (k % 64) + c')) (hm.1 _ tg.1 tg.2).1).resolve_left y3
        rw [e207] at e7
        exact ⟨⟨y1, _, hmf.1, hmf.2.1, hmf.2.2, y4⟩, e7⟩
      · rintro ⟨⟨y1, y2⟩, y3⟩
        have cw := (hS.2.2.2.2.2.1 t x t0 t1 x0 x1).resolve_left y1
        have tg := (h206 _).resolve_left y1
        obtain ⟨g1, g2, g3⟩ := gn_find hm tg y2
        refine ⟨64 * t + r, x, k3, k4, ?_, cw.2.1, ?_, ?_, ?_, ?_⟩
        · refine (e240 _ k3 k4).mpr ⟨hin, hg, ?_⟩
          rw [k1, k2]
          exact (refers_eq hS hm d4 ⟨t0, t1⟩).mpr ⟨x, x0, x1, ⟨y1, y2⟩, y3⟩
        · rw [show (64 * t + r) / 64 = t by omega, e201]; exact cw.2.2.1
        · rw [show (64 * t + r) / 64 = t by omega, show (64 * t + r) % 64 = r by omega]
        · rw [show (64 * t + r) / 64 = t by omega, e207]; exact y3
        · rw [show (64 * t + r) / 64 = t by omega, show (64 * t + r) % 64 = r by omega]
          unfold mBroken
          rw [e206, e215, e239]
          refine ⟨y1, g2, by rw [em]; exact g1, by rw [em]; exact g3⟩
    rw [bIc this]
  -- a row of the end, and where it comes from
  have src : ∀ t r, 0 ≤ t → t < 6 → 0 ≤ r → r < mDeletes W s 214 (6 * s + t) → 0 ≤ f t r ∧ f t r < S 214 (6 * s + t) ∧ dX S i s 239 (64 * t + f t r) = 0 ∧ q4 (mDeletes W s 215) (mrow s t r) = delR S (dX S i s) s t (q4 (S 215) (mrow s t (f t r))) := fun t r t0 t1 r0 r1 => by
    obtain ⟨b1, b2, b3, b4⟩ := b t r t0 t1 r0 r1
    have h8 := hm.1 t t0 t1
    have hg := b3 (by omega)
    exact ⟨b1, b2, hg, r4_ext (fun x x0 x1 => by rw [g4_q ⟨x0, x1⟩, b4 x x0 x1]; exact row t _ t0 t1 b1 b2 hg x x0 x1)⟩
  refine ⟨fun t ρ' t0 t1 => ?_, ⟨fun t t0 t1 => ?_, fun t r q t0 t1 r0 r1 q0 q1 hq => ?_, fun t r t0 t1 r0 r1 => ?_⟩, ?_⟩
  · constructor
    · rintro ⟨r, r0, r1, rfl⟩
      obtain ⟨s1, s2, s3, s4⟩ := src t r t0 t1 r0 r1
      exact ⟨_, ⟨_, s1, s2, rfl⟩, fun z => (gn_ix hm ⟨t0, t1⟩ s1 s2).mp z s3, s4⟩
    · rintro ⟨ρ, ⟨q, q0, q1, rfl⟩, hn, rfl⟩
      have hg : dX S i s 239 (64 * t + q) = 0 := Classical.byContradiction (fun z => hn ((gn_ix hm ⟨t0, t1⟩ q0 q1).mpr z))
      obtain ⟨r, r0, r1, r2⟩ := d t q t0 t1 q0 q1 (fun _ => hg)
      obtain ⟨s1, s2, s3, s4⟩ := src t r t0 t1 r0 r1
      rw [r2] at s4
      exact ⟨r, r0, r1, s4.symm⟩
  · have := a t t0 t1
    have := hm.1 t t0 t1
    omega
  · obtain ⟨s1, s2, s3, s4⟩ := src t r t0 t1 r0 r1
    obtain ⟨v1, v2, v3, v4⟩ := src t q t0 t1 q0 q1
    have e3 : S 215 (mrow s t (f t r)) = S 215 (mrow s t (f t q)) := by
      have e1 := q4_key s4
      have e2 := q4_key v4
      rw [del_key hS ⟨t0, t1⟩] at e1 e2
      rw [e1, e2] at hq
      exact hq
    exact c t r q t0 t1 r0 r1 q0 q1 (hm.2.1 t _ _ t0 t1 s1 s2 v1 v2 e3)
  · obtain ⟨s1, s2, s3, s4⟩ := src t r t0 t1 r0 r1
    have old := hm.2.2 t _ t0 t1 s1 s2
    have e1 : mDeletes W s 215 (mrow s t r) = S 215 (mrow s t (f t r)) := by
      have e1 := q4_key s4
      rw [del_key hS ⟨t0, t1⟩] at e1
      exact e1
    refine ⟨by rw [e1]; exact old.1, fun x x0 x1 => ?_⟩
    have := congrArg (fun ρ => g4 ρ x) s4
    simp only [g4_del (S := S) (X := dX S i s) (s := s) (t := t) (x := x) ⟨x0, x1⟩, g4_q (f := mDeletes W s 215) (b := mrow s t r) (c := x) ⟨x0, x1⟩, g4_q (f := S 215) (b := mrow s t (f t r)) (c := x) ⟨x0, x1⟩] at this
    rw [this]
    split
    · exact Or.inl rfl
    · exact old.2 x x0 x1
  · have e0 : SlF S (mBl s 384 W) s := ⟨fun k _ => by rw [fV 214 (by decide), e214], fun z hz => by
      rw [hV, e215, if_neg]
      rw [bI0]
      · decide
      · rintro ⟨k, c', kk0, kk1, -, c0, c1, ez, -⟩
        have := h4 (k / 64)
        unfold mrow at ez
        omega⟩
    exact e0.tr e
/-- class and reference have the same rows behind a delete -/
theorem del_rw {T W : IT} (h : DlH A S i s G) (hb : ∀ t, S 201 t ≤ 4) (hT : ∀ z, 0 ≤ z → z < 192 → T 1129 z = if bI (rfG G z 2 ∨ G 1099 (z / 4) ≠ 0) = 1 then -2147483648 else A 1129 z) (fW : ∀ o k, (o = 201 ∨ o = 206 ∨ o = 207 ∨ o = 214 ∨ o = 215 ∨ o = 239) → W o k = dX S i s o k) (e240 : ∀ k, 0 ≤ k → k < 384 → (W 240 k ≠ 0 ↔ mRowIn (dX S i s) s k ∧ dX S i s 239 k = 0 ∧ mRefers (dX S i s) s (k.tdiv 64) (k.tmod 64) 2)) :
    RowEq T 1129 (mDeletes W s) s ∧ RWc T 1129 ∧ RWm (mDeletes W s) s ∧ (∀ t ρ, 0 ≤ t → t < 6 → mIn (mDeletes W s) s t ρ → rowOk S t ρ) ∧ SlF S (mDeletes W s) s := by
  obtain ⟨c1, c2⟩ := del_cls h hT
  obtain ⟨m1, m2, m3⟩ := del_ref h hb fW e240
  have hE := h.1.2.1.1
  refine ⟨fun t ρ t0 t1 => ?_, c2, m2, fun t ρ t0 t1 hρ => ?_, m3⟩
  · rw [c1 t ρ t0 t1, m1 t ρ t0 t1]
    exact ⟨fun ⟨σ, a, b⟩ => ⟨σ, (hE t σ t0 t1).mp a, b⟩, fun ⟨σ, a, b⟩ => ⟨σ, (hE t σ t0 t1).mpr a, b⟩⟩
  · obtain ⟨σ, a, -, rfl⟩ := (m1 t ρ t0 t1).mp hρ
    exact rowOk_del h.1.1.2 ⟨t0, t1⟩ (h.1.2.2.2.1.2 t σ t0 t1 a)
end
