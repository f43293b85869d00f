/-! a delete's trial in class and reference: what is restricted, read, written -/
section
variable {A S G : IT} {i : Nat} {s : Int}
/-- a value refers to a row that goes -/
def refG (S X : IT) (s t x v : Int) : Prop := S 206 (4 * t + x) ≠ -1 ∧ Gn S X s (S 206 (4 * t + x)) v
theorem gn_ix {X : IT} (hm : RWm S s) {t r : Int} (ht : 0 ≤ t ∧ t < 6) (r0 : 0 ≤ r) (r1 : r < S 214 (6 * s + t)) : Gn S X s t (S 215 (mrow s t r)) ↔ X 239 (64 * t + r) ≠ 0 := by
  constructor
  · rintro ⟨q, q0, q1, q2, q3⟩
    rw [hm.2.1 t r q ht.1 ht.2 r0 r1 q0 q1 q2.symm]; exact q3
  · intro h; exact ⟨r, r0, r1, rfl, h⟩
theorem gn_find {X : IT} (hm : RWm S s) {t y : Int} (ht : 0 ≤ t ∧ t < 6) (h : Gn S X s t y) : mfind S s t y ≠ -1 ∧ y ≠ -2147483648 ∧ X 239 (64 * t + mfind S s t y) ≠ 0 := by
  obtain ⟨r, r0, r1, r2, r3⟩ := h
  have e := mfind_at hm ht r0 r1
  rw [r2] at e
  refine ⟨by omega, fun z => (hm.2.2 t r ht.1 ht.2 r0 r1).1 (r2.trans z), by rw [e]; exact r3⟩
/-- a place that is used, as a row of the reference -/
theorem pl_row (h : DlH A S i s G) {p : Int} (p0 : 0 ≤ p) (p1 : p < 48) (hk : A (tX i + 33) (p * 4) ≠ -2147483648) : ∃ r, 0 ≤ r ∧ r < S 214 (6 * s + p / 8) ∧ (∀ x, 0 ≤ x → x < 4 → S 215 (mrow s (p / 8) r + x) = A (tX i + 33) (p * 4 + x)) ∧ S 215 (mrow s (p / 8) r) = A (tX i + 33) (p * 4) ∧ (G 1099 p ≠ 0 ↔ dX S i s 239 (64 * (p / 8) + r) ≠ 0) := by
  have ge := gone_eq h p p0 p1
  obtain ⟨⟨-, -, ⟨hE2, hW2⟩, ⟨hm, -⟩, -⟩, -⟩ := h
  obtain ⟨r, r0, r1, r2⟩ := (hE2 (p / 8) _ (by omega) (by omega)).mp ⟨p, by omega, by omega, hk, rfl⟩
  have cell : ∀ x, 0 ≤ x → x < 4 → S 215 (mrow s (p / 8) r + x) = A (tX i + 33) (p * 4 + x) := fun x x0 x1 => by
    have := congrArg (fun ρ => g4 ρ x) r2
    simp only [g4_q (f := A (tX i + 33)) (b := p * 4) (c := x) ⟨x0, x1⟩, g4_q (f := S 215) (b := mrow s (p / 8) r) (c := x) ⟨x0, x1⟩] at this
    exact this.symm
  have k0 : S 215 (mrow s (p / 8) r) = A (tX i + 33) (p * 4) := (congrArg Prod.fst r2).symm
  refine ⟨r, r0, r1, cell, k0, ?_⟩
  rw [ge, ← gn_ix hm ⟨by omega, by omega⟩ r0 r1, k0]
  exact ⟨fun z => z.2, fun z => ⟨hk, z⟩⟩
theorem row_pl (h : DlH A S i s G) {t r : Int} (ht : 0 ≤ t ∧ t < 6) (r0 : 0 ≤ r) (r1 : r < S 214 (6 * s + t)) : ∃ p, t * 8 ≤ p ∧ p < t * 8 + 8 ∧ A (tX i + 33) (p * 4) ≠ -2147483648 ∧ (∀ x, 0 ≤ x → x < 4 → S 215 (mrow s t r + x) = A (tX i + 33) (p * 4 + x)) ∧ S 215 (mrow s t r) = A (tX i + 33) (p * 4) ∧ (G 1099 p ≠ 0 ↔ dX S i s 239 (64 * t + r) ≠ 0) := by
  have ge := gone_eq h
  obtain ⟨⟨-, -, ⟨hE2, hW2⟩, ⟨hm, -⟩, -⟩, -⟩ := h
  obtain ⟨p, p0, p1, p2, p3⟩ := (hE2 t _ ht.1 ht.2).mpr ⟨r, r0, r1, rfl⟩
  have cell : ∀ x, 0 ≤ x → x < 4 → S 215 (mrow s t r + x) = A (tX i + 33) (p * 4 + x) := fun x x0 x1 => by
    have := congrArg (fun ρ => g4 ρ x) p3
    simp only [g4_q (f := A (tX i + 33)) (b := p * 4) (c := x) ⟨x0, x1⟩, g4_q (f := S 215) (b := mrow s t r) (c := x) ⟨x0, x1⟩] at this
    exact this
  have k0 : S 215 (mrow s t r) = A (tX i + 33) (p * 4) := congrArg Prod.fst p3
  refine ⟨p, p0, p1, p2, cell, k0, ?_⟩
  rw [ge p (by omega) (by omega), show p / 8 = t by omega, ← gn_ix hm ht r0 r1, k0]
  exact ⟨fun z => z.2, fun z => ⟨p2, z⟩⟩
theorem rfG_eq (h : DlH A S i s G) {c r : Int} (c0 : 0 ≤ c) (c1 : c < 192) : rfG G c r ↔ G 1099 (c / 4) = 0 ∧ refG S (dX S i s) s (c / 32) (c % 4) (A (tX i + 33) c) ∧ S 207 (4 * (c / 32) + c % 4) = r := by
  have ge := gone_eq h
  obtain ⟨hT, hcp, h9, hsp, hG, hcl⟩ := h
  obtain ⟨⟨hR, hS⟩, ⟨hE, hW⟩, ⟨hE2, hW2⟩, ⟨hm, hk⟩, ⟨h1, h7, h8⟩, ht⟩ := hT
  have h206 := hS.2.2.2.2.2.2.2.2
  have e37 : A 1037 (tslot c) = S 206 (4 * (c / 32) + c % 4) := by rw [tslot_eq]; exact (hR.2.2.2.1 _ (by omega) (by omega)).1
  have e38 : G 1038 (tslot c) = S 207 (4 * (c / 32) + c % 4) := by
    rw [congrFun (hG.1 1038 (by decide)) _, congrFun (dlI_o (by decide) (by decide) (by decide)) _, tslot_eq]
    exact (hR.2.2.2.1 _ (by omega) (by omega)).2
  have e01 : G 1101 c = refC A (tX i + 33) c := by
    rw [congrFun (hG.1 1101 (by decide)) _]
    unfold dlI
    rw [up2_o _ _ _ _ (by decide)]
    exact if_pos ⟨rfl, c0, c1⟩
  unfold rfG refG
  rw [e38, e01]
  by_cases z : S 206 (4 * (c / 32) + c % 4) = -1
  · have : refC A (tX i + 33) c = -1 := by unfold refC; rw [e37, if_pos z]
    exact ⟨fun q => absurd this q.1, fun q => absurd z q.2.1.1⟩
  · have er : refC A (tX i + 33) c = rwFind A (tX i + 33) (S 206 (4 * (c / 32) + c % 4)) (A (tX i + 33) c) := by unfold refC; rw [e37, if_neg z]
    have tg := (h206 _).resolve_left z
    rw [er]
    by_cases w : rwFind A (tX i + 33) (S 206 (4 * (c / 32) + c % 4)) (A (tX i + 33) c) = -1
    · refine ⟨fun q => absurd w q.1, fun q => absurd ((find_eq hE2 hm tg).mp w) (gn_find hm tg q.2.1.2).1⟩
    · obtain ⟨w1, w2, w3⟩ := (rwFind_rg A (tX i + 33) (S 206 (4 * (c / 32) + c % 4)) (A (tX i + 33) c)).resolve_left w
      have hv : A (tX i + 33) c ≠ -2147483648 := fun q => w (by unfold rwFind; rw [if_pos q])
      have := ge _ (by omega) (by omega : rwFind A (tX i + 33) (S 206 (4 * (c / 32) + c % 4)) (A (tX i + 33) c) < 48)
      rw [w3, show rwFind A (tX i + 33) (S 206 (4 * (c / 32) + c % 4)) (A (tX i + 33) c) / 8 = S 206 (4 * (c / 32) + c % 4) by omega] at this
      rw [this]
      exact ⟨fun ⟨a, b, c, d⟩ => ⟨c, ⟨z, b.2⟩, d⟩, fun ⟨a, b, c⟩ => ⟨w, ⟨hv, b.2⟩, a, c⟩⟩
theorem refers_eq {X : IT} (hS : SSch S) (hm : RWm S s) (fX : ∀ o k, o ≠ 239 → o ≠ 240 → X o k = S o k) {t r w : Int} (ht : 0 ≤ t ∧ t < 6) : mRefers X s t r w ↔ ∃ x, 0 ≤ x ∧ x < 4 ∧ refG S X s t x (S 215 (mrow s t r + x)) ∧ S 207 (4 * t + x) = w := by
  have f : ∀ o, o ≠ 239 → o ≠ 240 → X o = S o := fun o h1 h2 => funext (fun k => fX o k h1 h2)
  have h206 := hS.2.2.2.2.2.2.2.2
  have wid := hS.wid ht
  unfold mRefers mBroken
  have em : ∀ t y, mfind X s t y = mfind S s t y := fun t y => by
    unfold mfind
    rw [f 214 (by decide) (by decide), f 215 (by decide) (by decide)]
  simp only [em]
  rw [f 201 (by decide) (by decide), f 206 (by decide) (by decide), f 207 (by decide) (by decide), f 215 (by decide) (by decide)]
  constructor
  · rintro ⟨x, x0, x1, ⟨a, b, c, d⟩, e⟩
    have tg := (h206 _).resolve_left a
    have hmf := (mfnd_rg (y := S 215 (mrow s t r + x)) (hm.1 _ tg.1 tg.2).1).resolve_left c
    exact ⟨x, by omega, by omega, ⟨a, _, hmf.1, hmf.2.1, hmf.2.2, d⟩, e⟩
  · rintro ⟨x, x0, x1, ⟨a, b⟩, e⟩
    have tg := (h206 _).resolve_left a
    obtain ⟨b1, b2, b3⟩ := gn_find hm tg b
    have cw := (hS.2.2.2.2.2.1 t x ht.1 ht.2 x0 x1).resolve_left a
    exact ⟨x, cw.2.1, cw.2.2.1, ⟨a, b2, b1, b3⟩, e⟩
/-- a place's row refers by a rule to a row that goes -/
theorem cell_refers (h : DlH A S i s G) {p w : Int} (p0 : 0 ≤ p) (p1 : p < 48) : (∃ c, 0 ≤ c ∧ c < 192 ∧ c / 4 = p ∧ rfG G c w) ↔ G 1099 p = 0 ∧ ∃ x, 0 ≤ x ∧ x < 4 ∧ refG S (dX S i s) s (p / 8) x (A (tX i + 33) (p * 4 + x)) ∧ S 207 (4 * (p / 8) + x) = w := by
  constructor
  · rintro ⟨c, c0, c1, c2, c3⟩
    obtain ⟨a, b, d⟩ := (rfG_eq h c0 c1).mp c3
    rw [c2] at a
    rw [show c / 32 = p / 8 by omega] at b d
    refine ⟨a, c % 4, by omega, by omega, ?_, d⟩
    rw [show p * 4 + c % 4 = c by omega]; exact b
  · rintro ⟨a, x, x0, x1, b, d⟩
    refine ⟨p * 4 + x, by omega, by omega, by omega, (rfG_eq h (by omega) (by omega)).mpr ?_⟩
    rw [show (p * 4 + x) / 4 = p by omega, show (p * 4 + x) / 32 = p / 8 by omega, show (p * 4 + x) % 4 = x by omega]
    exact ⟨a, b, d⟩
/-- .. the same of the reference's row -/
theorem row_refers (h : DlH A S i s G) {p w r : Int} (p0 : 0 ≤ p) (p1 : p < 48) (r0 : 0 ≤ r) (cell : ∀ x, 0 ≤ x → x < 4 → S 215 (mrow s (p / 8) r + x) = A (tX i + 33) (p * 4 + x)) : (∃ x, 0 ≤ x ∧ x < 4 ∧ refG S (dX S i s) s (p / 8) x (A (tX i + 33) (p * 4 + x)) ∧ S 207 (4 * (p / 8) + x) = w) ↔ mRefers (dX S i s) s (p / 8) r w := by
  have d4 := (dl_set h).2.2.2.1
  rw [refers_eq h.1.1.2 h.1.2.2.2.1.1 d4 ⟨by omega, by omega⟩]
  exact ⟨fun ⟨x, a, b, c⟩ => ⟨x, a, b, by rw [cell x a b]; exact c⟩, fun ⟨x, a, b, c⟩ => ⟨x, a, b, by rw [← cell x a b]; exact c⟩⟩
theorem del_ok (h : DlH A S i s G) : (¬ ∃ c, 0 ≤ c ∧ c < 192 ∧ rfG G c 0) ↔ ∀ j, 0 ≤ j → j < 384 → mCanG (dX S i s) s j := by
  have d4 := (dl_set h).2.2.2.1
  have hm := h.1.2.2.2.1.1
  have hS := h.1.1.2
  have e214 : dX S i s 214 = S 214 := funext (fun k => d4 214 k (by decide) (by decide))
  constructor
  · intro hn j j0 j1 hin hg hrf
    refine hn ?_
    obtain ⟨u1, u2⟩ := ix_of j0 j1
    unfold mRowIn at hin
    rw [u1, u2, e214] at hin
    rw [u1, u2] at hrf
    obtain ⟨p, p0, p1, p2, cell, pk, pg⟩ := row_pl h (t := j / 64) ⟨by omega, by omega⟩ (by omega : 0 ≤ j % 64) hin
    have e8 : p / 8 = j / 64 := by omega
    rw [← e8] at cell hrf
    have := (row_refers h (by omega) (by omega) (by omega) cell).mpr hrf
    have g0 : G 1099 p = 0 := Classical.byContradiction (fun z => by
      have := pg.mp z
      rw [show 64 * (j / 64) + j % 64 = j by omega] at this
      exact this hg)
    obtain ⟨c, a, b, d, e⟩ := (cell_refers h (by omega) (by omega)).mpr ⟨g0, this⟩
    exact ⟨c, a, b, e⟩
  · rintro hn ⟨c, c0, c1, c2⟩
    obtain ⟨g0, this⟩ := (cell_refers h (p := c / 4) (by omega) (by omega)).mp ⟨c, c0, c1, rfl, c2⟩
    have kn : A (tX i + 33) (c / 4 * 4) ≠ -2147483648 := fun z => by
      obtain ⟨x, x0, x1, ⟨y1, y2⟩, y3⟩ := this
      have tg := (hS.2.2.2.2.2.2.2.2 _).resolve_left y1
      exact (gn_find hm tg y2).2.1 (h.1.2.2.1.2.2.1 (c / 4) x (by omega) (by omega) z x0 x1)
    obtain ⟨r, r0, r1, cell, rk, rg⟩ := pl_row h (by omega) (by omega) kn
    have hrf := (row_refers h (by omega) (by omega) r0 cell).mp this
    obtain ⟨k1, k2, k3, k4, k5⟩ := rowIn_ix hm (t := c / 4 / 8) ⟨by omega, by omega⟩ r0 r1
    refine hn _ k3 k4 ?_ ?_ ?_
    · unfold mRowIn at *
      rw [e214]; exact k5
    · exact Classical.byContradiction (fun z => (rg.mpr z) g0)
    · rw [k1, k2]; exact hrf
theorem del_w (h : DlH A S i s G) : ∀ t, 0 ≤ t → t < 6 → (dlW G t ↔ ∃ k, 0 ≤ k ∧ k < 384 ∧ mRowIn (dX S i s) s k ∧ dX S i s 239 k ≠ 0 ∧ ∃ q, 0 ≤ q ∧ q < 24 ∧ dX S i s 206 q = k.tdiv 64 ∧ q.tdiv 4 = t) := by
  intro t t0 t1
  have d4 := (dl_set h).2.2.2.1
  have ge := gone_eq h
  have hm := h.1.2.2.2.1.1
  have hS := h.1.1.2
  have hR := h.1.1.1
  have hG := h.2.2.2.2.1
  have e214 : dX S i s 214 = S 214 := funext (fun k => d4 214 k (by decide) (by decide))
  have e206 : ∀ k, dX S i s 206 k = S 206 k := fun k => d4 206 k (by decide) (by decide)
  have e32 : G 1032 0 = S 100 0 := by rw [congrFun (hG.1 1032 (by decide)) 0, congrFun (dlI_o (by decide) (by decide) (by decide)) 0]; exact hR.1
  have e34 : G 1034 t = S 201 t := by rw [congrFun (hG.1 1034 (by decide)) t, congrFun (dlI_o (by decide) (by decide) (by decide)) t]; exact (hR.2.1 t t0 t1).1
  have e37 : ∀ c, 0 ≤ c → c < 24 → G 1037 c = S 206 c := fun c c0 c1 => by rw [congrFun (hG.1 1037 (by decide)) c, congrFun (dlI_o (by decide) (by decide) (by decide)) c]; exact (hR.2.2.2.1 c c0 c1).1
  have wid := hS.wid ⟨t0, t1⟩
  unfold dlW scRef
  rw [e32, e34]
  constructor
  · rintro ⟨q, q0, q1, q2, q3, q4⟩
    obtain ⟨j, j0, j1, j2⟩ : ∃ j : Int, 1 ≤ j ∧ j < S 201 t ∧ G 1037 (t * 4 + j) = q / 8 := bIn (by rw [q4]; decide)
    rw [e37 _ (by omega) (by omega)] at j2
    obtain ⟨r, r0, r1, -, -, rg⟩ := pl_row h q0 q1 ((ge q q0 q1).mp q2).1
    obtain ⟨k1, k2, k3, k4, k5⟩ := rowIn_ix hm (t := q / 8) ⟨by omega, by omega⟩ r0 r1
    refine ⟨_, k3, k4, by unfold mRowIn at *; rw [e214]; exact k5, rg.mp q2, t * 4 + j, by omega, by omega, by rw [e206, j2, k1], ?_⟩
    rw [Int.tdiv_eq_ediv_of_nonneg (by omega)]; omega
  · rintro ⟨k, k0, k1, k2, k3, q, q0, q1, q2, q3⟩
    obtain ⟨u1, u2⟩ := ix_of k0 k1
    unfold mRowIn at k2
    rw [u1, u2, e214] at k2
    rw [u1, e206] at q2
    rw [Int.tdiv_eq_ediv_of_nonneg q0] at q3
    obtain ⟨p, p0, p1, p2, -, -, pg⟩ := row_pl h (t := k / 64) ⟨by omega, by omega⟩ (by omega : 0 ≤ k % 64) k2
    rw [show 64 * (k / 64) + k % 64 = k by omega] at pg
    have cw := hS.2.2.2.2.2.1 t (q % 4) t0 t1 (by omega) (by omega)
    rw [show 4 * t + q % 4 = q by omega, q2] at cw
    have cw := cw.resolve_left (by omega)
    refine ⟨p, by omega, by omega, pg.mpr k3, cw.1, bI1 ⟨q % 4, cw.2.1, cw.2.2.1, ?_⟩⟩
    rw [show t * 4 + q % 4 = q by omega, e37 q q0 q1, q2]; omega
end
