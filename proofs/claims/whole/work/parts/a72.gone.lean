/-! what goes by a delete: class and reference -/
section
variable {A S G : IT} {i : Nat} {s : Int}
noncomputable abbrev dX (S : IT) (i : Nat) (s : Int) : IT := mDelX S s (S 228 i) (S 229 i)
/-- a row goes -/
def Gn (S X : IT) (s t y : Int) : Prop := ∃ r, 0 ≤ r ∧ r < S 214 (6 * s + t) ∧ S 215 (mrow s t r) = y ∧ X 239 (64 * t + r) ≠ 0
def DlH (A S : IT) (i : Nat) (s : Int) (G : IT) : Prop := TrH A S i s ∧ (∀ z, 0 ≤ z → z < 192 → A 1129 z = A (tX i + 33) z) ∧ A (tX i) 9 = S 229 i ∧ seeP A i ≠ -1 ∧ SpT (dlI A i) G ∧ ∀ c, 0 ≤ c → c < 192 → ¬ rfG G c 1
theorem tslot_eq {c : Int} : tslot c = 4 * (c / 32) + c % 4 := by unfold tslot; omega
theorem mfind_ix (hm : RWm S s) : ∀ t y, 0 ≤ t → t < 6 → mfind S s t y = -1 ∨ (0 ≤ mfind S s t y ∧ mfind S s t y < 64) := fun t y h0 h1 => by
  have h8 := hm.1 t h0 h1
  rcases mfnd_rg (y := y) h8.1 with q | q
  · exact Or.inl q
  · exact Or.inr ⟨q.1, by omega⟩
theorem rowIn_ix (hm : RWm S s) {t r : Int} (ht : 0 ≤ t ∧ t < 6) (h0 : 0 ≤ r) (h1 : r < S 214 (6 * s + t)) : (64 * t + r).tdiv 64 = t ∧ (64 * t + r).tmod 64 = r ∧ 0 ≤ 64 * t + r ∧ 64 * t + r < 384 ∧ mRowIn S s (64 * t + r) := by
  have h8 := hm.1 t ht.1 ht.2
  have e1 : (64 * t + r).tdiv 64 = t := by rw [Int.tdiv_eq_ediv_of_nonneg (by omega)]; omega
  have e2 : (64 * t + r).tmod 64 = r := by rw [Int.tmod_eq_emod_of_nonneg (by omega)]; omega
  refine ⟨e1, e2, by omega, by omega, ?_⟩
  unfold mRowIn
  rw [e1, e2]; exact h1
theorem ix_of {k : Int} (h0 : 0 ≤ k) (h1 : k < 384) : k.tdiv 64 = k / 64 ∧ k.tmod 64 = k % 64 := ⟨Int.tdiv_eq_ediv_of_nonneg h0, Int.tmod_eq_emod_of_nonneg h0⟩
theorem dl_set (h : DlH A S i s G) : 0 ≤ mfind S s (S 228 i) (S 229 i) ∧ mfind S s (S 228 i) (S 229 i) < S 214 (6 * s + S 228 i) ∧ S 215 (mrow s (S 228 i) (mfind S s (S 228 i) (S 229 i))) = S 229 i ∧
    (∀ o k, o ≠ 239 → o ≠ 240 → dX S i s o k = S o k) ∧ (dX S i s 239 (64 * S 228 i + mfind S s (S 228 i) (S 229 i)) ≠ 0) ∧ (∀ k, 0 ≤ k → k < 384 → dX S i s 240 k = 0) ∧
    (∀ k, 0 ≤ k → k < 384 → mSpY S s (fun q => dX S i s 239 q ≠ 0) k → dX S i s 239 k ≠ 0) ∧
    (∀ Y : Int → Prop, Y (64 * S 228 i + mfind S s (S 228 i) (S 229 i)) → (∀ k, 0 ≤ k → k < 384 → mSpY S s Y k → Y k) → ∀ k, 0 ≤ k → k < 384 → dX S i s 239 k ≠ 0 → Y k) := by
  obtain ⟨hT, hcp, h9, hsp, hG, hcl⟩ := h
  have t6 := hT.t6
  have sp := seeP_eq hT h9
  obtain ⟨p1, p2, p3, p4, p5, p6, p7⟩ := sp.2 hsp
  have hm := hT.2.2.2.1.1
  obtain ⟨e1, e2, e3, e4, e5⟩ := rowIn_ix hm t6 p5 p6
  exact ⟨p5, p6, p7, delX_set hT.1.2.2.2.2.2.2.2.2.2 (mfind_ix hm) ⟨e3, e4⟩⟩
/-- the places that are gone are those of the rows that go -/
theorem gone_eq (h : DlH A S i s G) : ∀ p, 0 ≤ p → p < 48 → (G 1099 p ≠ 0 ↔ A (tX i + 33) (p * 4) ≠ -2147483648 ∧ Gn S (dX S i s) s (p / 8) (A (tX i + 33) (p * 4))) := by
  obtain ⟨d1, d2, d3, d4, d5, d6, d7, d8⟩ := dl_set h
  obtain ⟨hT, hcp, h9, hsp, hG, hcl⟩ := h
  have t6 := hT.t6
  have sp := seeP_eq hT h9
  obtain ⟨p1, ⟨p2, p3, p4⟩, p5, p6, -⟩ := sp.2 hsp
  obtain ⟨⟨hR, hS⟩, ⟨hE, hW⟩, ⟨hE2, hW2⟩, ⟨hm, hk⟩, ⟨h1, h7, h8⟩, ht⟩ := hT
  have h206 := hS.2.2.2.2.2.2.2.2
  obtain ⟨g1, g2, g3, g4', g5⟩ := hG
  have dl99 : ∀ p, 0 ≤ p → p < 48 → dlI A i 1099 p = if p = seeP A i then 1 else 0 := fun p p0 p1 => by
    unfold dlI
    by_cases e : p = seeP A i
    · rw [if_pos e, e, up2_eq]
    · rw [if_neg e, up2_k _ _ _ _ e]
      exact (if_neg (fun q => absurd q.1 (by decide))).trans (if_pos ⟨Or.inl rfl, p0, by omega⟩)
  have dl01 : ∀ c, 0 ≤ c → c < 192 → dlI A i 1101 c = refC A (tX i + 33) c := fun c c0 c1 => by
    unfold dlI
    rw [up2_o _ _ _ _ (by decide)]
    exact if_pos ⟨rfl, c0, c1⟩
  have dl38 : ∀ c, dlI A i 1038 c = A 1038 c := fun c => congrFun (dlI_o (by decide) (by decide) (by decide)) c
  -- what a cell refers to
  have rf : ∀ c, 0 ≤ c → c < 192 → refC A (tX i + 33) c ≠ -1 → S 206 (4 * (c / 32) + c % 4) ≠ -1 ∧ (0 ≤ S 206 (4 * (c / 32) + c % 4) ∧ S 206 (4 * (c / 32) + c % 4) < 6) ∧ refC A (tX i + 33) c = rwFind A (tX i + 33) (S 206 (4 * (c / 32) + c % 4)) (A (tX i + 33) c) := fun c c0 c1 hc => by
    have e : A 1037 (tslot c) = S 206 (4 * (c / 32) + c % 4) := by rw [tslot_eq]; exact (hR.2.2.2.1 _ (by omega) (by omega)).1
    unfold refC at hc ⊢
    rw [e] at hc ⊢
    by_cases z : S 206 (4 * (c / 32) + c % 4) = -1
    · rw [if_pos z] at hc; exact absurd rfl hc
    · exact ⟨z, (h206 _).resolve_left z, if_neg z⟩
  have e0 : ∀ q : Int, q * 4 + 0 = q * 4 := fun q => Int.add_zero _
  intro p pp0 pp1
  constructor
  · intro hp
    refine g5 (fun p => A (tX i + 33) (p * 4) ≠ -2147483648 ∧ Gn S (dX S i s) s (p / 8) (A (tX i + 33) (p * 4))) (fun q q0 q1 hq => ?_) (fun c c0 c1 hc hX hr => ?_) p pp0 pp1 hp
    · rw [dl99 q q0 q1] at hq
      by_cases e : q = seeP A i
      · rw [e, ← hcp _ (by omega) (by omega), p4]
        refine ⟨p5, _, d1, ?_, ?_, ?_⟩
        · rw [show seeP A i / 8 = S 228 i by omega]; exact d2
        · rw [show seeP A i / 8 = S 228 i by omega]; exact d3
        · rw [show seeP A i / 8 = S 228 i by omega]; exact d5
      · rw [if_neg e] at hq; exact absurd rfl hq
    · rw [dl01 c c0 c1] at hc hX
      obtain ⟨z1, z2, z3⟩ := rf c c0 c1 hc
      rw [z3] at hc hX
      obtain ⟨w1, w2, w3⟩ := (rwFind_rg A (tX i + 33) (S 206 (4 * (c / 32) + c % 4)) (A (tX i + 33) c)).resolve_left hc
      rw [w3] at hX
      obtain ⟨x1, r', x2, x3, x4, x5⟩ := hX
      rw [show rwFind A (tX i + 33) (S 206 (4 * (c / 32) + c % 4)) (A (tX i + 33) c) / 8 = S 206 (4 * (c / 32) + c % 4) by omega] at x3 x4 x5
      have cp : c / 4 * 4 + c % 4 = c := by omega
      have kn : A (tX i + 33) (c / 4 * 4) ≠ -2147483648 := fun z => by
        have := hW2.2.1 (c / 4) (c % 4) (by omega) (by omega) z (by omega) (by omega)
        rw [cp] at this
        exact x1 this
      refine ⟨kn, ?_⟩
      rw [show c / 4 / 8 = c / 32 by omega]
      have inC : cIn A (tX i + 33) (c / 32) (q4 (A (tX i + 33)) (c / 4 * 4)) := ⟨c / 4, by omega, by omega, kn, rfl⟩
      obtain ⟨r, r0, r1, r2⟩ := (hE2 (c / 32) _ (by omega) (by omega)).mp inC
      have rk : S 215 (mrow s (c / 32) r) = A (tX i + 33) (c / 4 * 4) := (congrArg Prod.fst r2).symm
      have rv : S 215 (mrow s (c / 32) r + c % 4) = A (tX i + 33) c := by
        have := congrArg (fun ρ => g4 ρ (c % 4)) r2
        simp only [g4_q (f := A (tX i + 33)) (b := c / 4 * 4) (c := c % 4) ⟨by omega, by omega⟩, g4_q (f := S 215) (b := mrow s (c / 32) r) (c := c % 4) ⟨by omega, by omega⟩] at this
        rw [cp] at this
        exact this.symm
      have mf : mfind S s (S 206 (4 * (c / 32) + c % 4)) (A (tX i + 33) c) = r' := by
        rw [← x4]; exact mfind_at hm z2 x2 x3
      obtain ⟨k1, k2, k3, k4, k5⟩ := rowIn_ix hm (t := c / 32) ⟨by omega, by omega⟩ r0 r1
      have cw := hS.2.2.2.2.2.1 (c / 32) (c % 4) (by omega) (by omega) (by omega) (by omega)
      have cw := cw.resolve_left z1
      refine ⟨r, r0, r1, rk, d7 _ k3 k4 ⟨k5, c % 4, cw.2.1, by rw [k1]; exact cw.2.2.1, by rw [k1]; exact z1, by rw [k1, k2, rv]; exact x1, ?_, ?_, ?_⟩⟩
      · rw [k1, k2, rv, mf]; omega
      · rw [k1, k2, rv, mf]; exact x5
      · rw [k1]
        have : A 1038 (tslot c) = S 207 (4 * (c / 32) + c % 4) := by rw [tslot_eq]; exact (hR.2.2.2.1 _ (by omega) (by omega)).2
        rw [← this, ← dl38]; exact hr
  · rintro ⟨kn, r, r0, r1, r2, r3⟩
    obtain ⟨k1, k2, k3, k4, k5⟩ := rowIn_ix hm (t := p / 8) ⟨by omega, by omega⟩ r0 r1
    have key := d8 (fun k => mRowIn S s k → G 1099 (rwFind A (tX i + 33) (k.tdiv 64) (S 215 (mrow s (k.tdiv 64) (k.tmod 64)))) ≠ 0) (fun _ => ?_) (fun k kk0 kk1 hk hin => ?_) _ k3 k4 r3 k5
    · rw [k1, k2, r2, rwFind_at hW2 ⟨by omega, by omega⟩ (by omega) (by omega) kn] at key
      exact key
    · obtain ⟨q1, q2, q3, q4, q5⟩ := rowIn_ix hm t6 d1 d2
      rw [q1, q2, d3]
      have e : rwFind A (tX i + 33) (S 228 i) (S 229 i) = seeP A i := by
        have := rwFind_at hW2 t6 p2 p3 (by rw [← hcp _ (by omega) (by omega), p4]; exact p5)
        rw [← hcp _ (by omega) (by omega), p4] at this
        exact this
      rw [e]
      refine g4' _ ?_
      rw [dl99 _ (by omega) (by omega), if_pos rfl]; decide
    · obtain ⟨-, x, x0, x1, y1, y2, y3, y4, y5⟩ := hk
      obtain ⟨u1, u2⟩ := ix_of kk0 kk1
      have tk : 0 ≤ k.tdiv 64 ∧ k.tdiv 64 < 6 := by rw [u1]; omega
      have rk0 : 0 ≤ k.tmod 64 := by rw [u2]; omega
      have hin' : k.tmod 64 < S 214 (6 * s + k.tdiv 64) := hin
      have tg := (h206 _).resolve_left y1
      have wid := hS.wid tk
      -- the row's place
      have inM : mIn S s (k.tdiv 64) (q4 (S 215) (mrow s (k.tdiv 64) (k.tmod 64))) := ⟨_, rk0, hin', rfl⟩
      obtain ⟨pl, l0, l1, l2, l3⟩ := (hE2 _ _ tk.1 tk.2).mpr inM
      have lk : S 215 (mrow s (k.tdiv 64) (k.tmod 64)) = A (tX i + 33) (pl * 4) := congrArg Prod.fst l3
      have lv : S 215 (mrow s (k.tdiv 64) (k.tmod 64) + x) = A (tX i + 33) (pl * 4 + x) := by
        have := congrArg (fun ρ => g4 ρ x) l3
        simp only [g4_q (f := A (tX i + 33)) (b := pl * 4) (c := x) ⟨by omega, by omega⟩, g4_q (f := S 215) (b := mrow s (k.tdiv 64) (k.tmod 64)) (c := x) ⟨by omega, by omega⟩] at this
        exact this
      rw [lk, rwFind_at hW2 tk l0 l1 l2]
      -- the row that it refers to
      have hmf := (mfnd_rg (y := S 215 (mrow s (k.tdiv 64) (k.tmod 64) + x)) (hm.1 _ tg.1 tg.2).1).resolve_left y3
      obtain ⟨v1, v2, v3, v4, v5⟩ := rowIn_ix hm tg hmf.1 hmf.2.1
      have y4' := y4 v5
      rw [v1, v2, hmf.2.2, lv] at y4'
      have fnd : rwFind A (tX i + 33) (S 206 (4 * k.tdiv 64 + x)) (A (tX i + 33) (pl * 4 + x)) ≠ -1 := fun z => y3 (by rw [lv]; exact (find_eq hE2 hm tg).mp z)
      have c32 : (pl * 4 + x) / 32 = k.tdiv 64 := by omega
      have c4 : (pl * 4 + x) % 4 = x := by omega
      have e01 : G 1101 (pl * 4 + x) = rwFind A (tX i + 33) (S 206 (4 * k.tdiv 64 + x)) (A (tX i + 33) (pl * 4 + x)) := by
        rw [congrFun (g1 1101 (by decide)) _, dl01 _ (by omega) (by omega)]
        have e : A 1037 (tslot (pl * 4 + x)) = S 206 (4 * k.tdiv 64 + x) := by rw [tslot_eq, c32, c4]; exact (hR.2.2.2.1 _ (by omega) (by omega)).1
        unfold refC
        rw [e, if_neg y1]
      have e38 : G 1038 (tslot (pl * 4 + x)) = 1 := by
        rw [congrFun (g1 1038 (by decide)) _, dl38, tslot_eq, c32, c4, (hR.2.2.2.1 _ (by omega) (by omega)).2]
        exact y5
      intro z
      refine hcl (pl * 4 + x) (by omega) (by omega) ⟨by rw [e01]; exact fnd, by rw [e01]; exact y4', ?_, e38⟩
      rw [show (pl * 4 + x) / 4 = pl by omega]
      exact z
end
