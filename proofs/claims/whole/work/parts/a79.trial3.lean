section
variable {A I S S' I2 G : IT} {i l l' m : Nat} {s : Int} {r : Option AV ⊕ String}
theorem TrH.ofS (h : TrH A S i s) (e : ∀ o k, (200 < o ∧ o < 233) ∨ (o = 100 ∧ (k = 0 ∨ k = 8)) → S' o k = S o k) : TrH A S' i s := by
  obtain ⟨⟨hR, hS⟩, ⟨hE, hW⟩, ⟨hE2, hW2⟩, ⟨hm, hk⟩, ⟨h1, h7, h8⟩, ht⟩ := h
  have e' : ∀ o k, (200 < o ∧ o < 214) ∨ (o = 100 ∧ (k = 0 ∨ k = 8)) → S' o k = S o k := fun o k q => e o k (by omega)
  have f : ∀ o, 200 < o → o < 233 → S' o = S o := fun o a b => funext (fun k => e o k (Or.inl ⟨a, b⟩))
  refine ⟨⟨hR.ofS e', hS.of e'⟩, ⟨hE.ofS (fun k => e 214 k (by omega)) (fun k => e 215 k (by omega)), hW⟩, ⟨hE2.ofS (fun k => e 214 k (by omega)) (fun k => e 215 k (by omega)), hW2⟩, ⟨hm.of (fun k => e 214 k (by omega)) (fun k => e 215 k (by omega)), fun t ρ t0 t1 hρ => ?_⟩, ⟨by rw [f 220 (by decide) (by decide)]; exact h1, by rw [f 227 (by decide) (by decide)]; exact h7, by rw [f 228 (by decide) (by decide)]; exact h8⟩, by rw [f 228 (by decide) (by decide), e 100 0 (by omega)]; exact ht⟩
  rw [rowOk_of (S := S) (fun k => e 202 k (by omega)) (fun k => e 203 k (by omega)) (fun k => e 204 k (by omega)) (fun k => e 205 k (by omega))]
  exact hk t ρ t0 t1 ((mIn_of (fun k => e 214 k (by omega)) (fun k => e 215 k (by omega))).mp hρ)
theorem mTk_fr2 {s : Int} (n : Nat) : ∀ {S : IT} (o : Nat) (k : Int), o ≠ 215 → o ≠ 214 → mTk s n S o k = S o k := by
  induction n with
  | zero => intro S o k _ _; rfl
  | succ n ih =>
    intro S o k h1 h2
    by_cases g : S 239 n = 0
    · rw [mTk_no g]; exact ih o k h1 h2
    · rw [mTk_yes g, ih o k h1 h2, mTake_fr o k h1 h2]
/-- what a delete that isn't refused leaves -/
theorem del_okw {T W : IT} (h : DlH A S i s G) (hb : ∀ t, S 201 t ≤ 4) (hi0 : 0 ≤ (i : Int)) (h41 : S 100 41 = 0) (eW : W = mWdE i s (dX S i s)) (hT : dlRw A G i T) (k0 : S 227 i ≠ 0) (k1 : S 227 i ≠ 1) : OKW S i s T W := by
  obtain ⟨d1, d2, d3, d4, d5, d6, d7, d8⟩ := dl_set h
  have hm := h.1.2.2.2.1.1
  have hS := h.1.1.2
  have t6 := h.1.t6
  have x41 : dX S i s 100 41 = 0 := (d4 100 41 (by decide) (by decide)).trans h41
  obtain ⟨fr, e41, eL, e240, mr⟩ := mWd_set (X := dX S i s) (s := s) hi0 x41 d6 384 (Nat.le_refl _)
  have fW : ∀ o k, ¬ wdX o k → W o k = dX S i s o k := fun o k ho => by rw [eW]; exact mWdE_fr o k ho
  have w240 : ∀ k, 0 ≤ k → k < 384 → (W 240 k ≠ 0 ↔ mRowIn (dX S i s) s k ∧ dX S i s 239 k = 0 ∧ mRefers (dX S i s) s (k.tdiv 64) (k.tmod 64) 2) := fun k a b => by
    have : W 240 k = mWd i s 384 (dX S i s) 240 k := by rw [eW]; unfold mWdE; exact mSortN_fr _ 240 k (by decide) (by decide)
    rw [this, e240 k a b]
    exact ⟨fun z => z.2, fun z => ⟨by omega, z⟩⟩
  have w41 : W 100 41 = (wdL (dX S i s) s 384).length := by
    have : W 100 41 = mWd i s 384 (dX S i s) 100 41 := by rw [eW]; unfold mWdE; exact mSortN_fr _ 100 41 (by decide) (by decide)
    rw [this, e41]
  obtain ⟨hT1, n, M, m1, m2, m3, m4, m5⟩ := hT
  have pl := del_list h m1 m2
  have len : n = (wdL (dX S i s) s 384).length := by
    have := (m4.trans pl).length_eq
    rw [trL_len] at this
    exact this
  have n48 : n ≤ 48 := by
    have := m4.length_eq
    rw [trL_len] at this
    have := chgL_len (I := M) (a := tX i + 33) 48
    omega
  have sl := wdE_list (X := dX S i s) (i := (i : Int)) (s := s) e41
  rw [eL, ← eW, ← len] at sl
  have eq : trL T n = wtL W n := sorted_eq m5 sl.2 ((m4.trans pl).trans sl.1.symm)
  have memW : ∀ x, x ∈ wtL W n ↔ ∃ k : Nat, k < 384 ∧ wdG (dX S i s) s k ∧ x = wdK (dX S i s) s k := fun x => by rw [sl.1.mem_iff, wdL_mem]
  have x214 : dX S i s 214 = S 214 := funext (fun k => d4 214 k (by decide) (by decide))
  have x215 : dX S i s 215 = S 215 := funext (fun k => d4 215 k (by decide) (by decide))
  -- rows behind it
  have rows : ∀ W2, lgFr W W2 → _ := fun W2 hf => del_rw (T := T) (W := W2) h hb hT1 (fun o k ho => (hf o k (by omega) (Or.inl (by omega))).trans (fW o k (by unfold wdX; omega))) (fun k a b => by rw [hf 240 k (by omega) (Or.inl (by decide))]; exact w240 k a b)
  have hD : ∀ W2, lgFr W W2 → mDoesS W2 i s (S 228 i) = mDeletes W2 s := fun W2 hf => by
    have e : W2 227 i = S 227 i := (hf 227 i (by omega) (Or.inl (by decide))).trans ((fW 227 i (by unfold wdX; omega)).trans (d4 227 i (by decide) (by decide)))
    unfold mDoesS
    rw [e, if_neg k0, if_neg k1]
  refine ⟨n, ⟨by rw [w41, len], n48, m3, eq⟩, fun x hx => ?_, (rows W (fun _ _ _ _ => rfl)).2.1, fun W2 hf => ?_, fun z => absurd z k0, fun z => absurd z k1, fun _ _ j hj hg => ?_⟩
  · obtain ⟨k, a, b, e⟩ := (memW x).mp hx
    obtain ⟨u1, u2⟩ := ix_of (k := (k : Int)) (by omega) (by omega)
    have g1 := b.1
    unfold mRowIn at g1
    rw [u1, u2, x214] at g1
    have := hm.2.2 ((k : Int) / 64) ((k : Int) % 64) (by omega) (by omega) (by omega) g1
    have v := this.2 0 (by decide) (by decide)
    rw [Int.add_zero] at v
    rw [e]
    unfold wdK
    rw [u1, u2, x215]
    exact ⟨⟨by show 0 ≤ (k : Int) / 64; omega, by show (k : Int) / 64 < 6; omega⟩, v.resolve_left this.1⟩
  · obtain ⟨y1, y2, y3, y4, y5⟩ := rows W2 hf
    rw [hD W2 hf]
    refine ⟨y1, y3, y4, y5, fun o k a b => ?_, fun t ρ t0 t1 hn => ?_⟩
    · unfold mDeletes
      rw [mTk_fr2 384 o k b a, mBl_fr 384 o k b]
    · have mr := (del_ref h hb (W := W2) (fun o k ho => (hf o k (by omega) (Or.inl (by omega))).trans (fW o k (by unfold wdX; omega))) (fun k a b => by rw [hf 240 k (by omega) (Or.inl (by decide))]; exact w240 k a b)).1 t ρ t0 t1
      -- a row that isn't written stays as it is
      have stays : ∀ σ, mIn S s t σ → σ.1 = ρ.1 → ¬ Gn S (dX S i s) s t σ.1 ∧ delR S (dX S i s) s t σ = σ := by
        rintro σ ⟨q, q0, q1, rfl⟩ e
        obtain ⟨v1, v2, v3, v4, v5⟩ := rowIn_ix hm ⟨t0, t1⟩ q0 q1
        have hin : mRowIn (dX S i s) s (64 * t + q) := by unfold mRowIn at *; rw [x214]; exact v5
        have ng : ¬ wdG (dX S i s) s (64 * t + q) := fun z => hn ((memW _).mpr ⟨(64 * t + q).toNat, by omega, by rw [Int.toNat_of_nonneg v3]; exact z, by
          rw [Int.toNat_of_nonneg v3]
          unfold wdK
          rw [v1, v2, x215, ← e]⟩)
        have n1 : dX S i s 239 (64 * t + q) = 0 := Classical.byContradiction (fun z => ng ⟨hin, Or.inl z⟩)
        have n2 : ¬ mRefers (dX S i s) s t q 2 := fun z => ng ⟨hin, Or.inr (by rw [v1, v2]; exact z)⟩
        refine ⟨fun z => (gn_ix hm ⟨t0, t1⟩ q0 q1).mp z n1, r4_ext (fun x x0 x1 => ?_)⟩
        rw [g4_del ⟨x0, x1⟩, if_neg]
        rw [bI0]
        · decide
        · rintro ⟨z1, z2⟩
          rw [g4_q ⟨x0, x1⟩] at z1
          exact n2 ((refers_eq hS hm d4 ⟨t0, t1⟩).mpr ⟨x, x0, x1, z1, z2⟩)
      rw [mr]
      constructor
      · rintro ⟨σ, a, b, e⟩
        have ek : σ.1 = ρ.1 := by rw [e, del_key hS ⟨t0, t1⟩]
        rw [e, (stays σ a ek).2]; exact a
      · intro a
        obtain ⟨b, e⟩ := stays ρ a rfl
        exact ⟨ρ, a, b, e.symm⟩
  · obtain ⟨q1, q2, q3, q4, q5⟩ := rowIn_ix hm t6 d1 d2
    have e239 : W 239 j = dX S i s 239 j := fW 239 j (by unfold wdX; omega)
    rw [e239] at hg
    have := d8 (fun k => mRowIn S s k) q5 (fun k _ _ z => z.1) j (by omega) (by omega) hg
    unfold mRowIn at this
    rw [show W 214 = S 214 from funext (fun k => (fW 214 k (by unfold wdX; omega)).trans (congrFun x214 k))]
    exact this
theorem tri_del (h : TriH I S i l s) (k0 : S 227 i ≠ 0) (k1 : S 227 i ≠ 1) (hT : TriP (alI I i) i l l' m r I2) : TriR S i l' s r I2 := by
  obtain ⟨hA, hcp, hpA, hrA⟩ := h.A
  have t6 := hA.t6
  obtain ⟨⟨hR, hS⟩, ⟨hE, hW⟩, ⟨hm, hk⟩, ⟨hs, h1⟩, hp, hrd, hn, h4⟩ := h
  have g9 := hpA.2.2.2.1 k0
  obtain ⟨eW, eQ⟩ := mWant_d (I := up2 S 100 41 0) (i := (i : Int)) (by rw [s41 (by decide)]; exact k0) (by rw [s41 (by decide)]; exact k1)
  rw [s41 (by decide), s41 (by decide), s41 (by decide), hs] at eW eQ
  have m00 : ∀ o, o ≠ 233 → o ≠ 234 → o ≠ 235 → o ≠ 100 → mReadsKey (up2 S 100 41 0) i (S 228 i) (S 229 i) o = S o := fun o a b c d => funext (fun k => (mReadsKey_fr o k a b c).trans (by rw [s41 d]))
  have m1h : ∀ k, k ≠ 41 → mReadsKey (up2 S 100 41 0) i (S 228 i) (S 229 i) 100 k = S 100 k := fun k hk => (mReadsKey_fr 100 k (by decide) (by decide) (by decide)).trans (up2_k _ _ _ _ hk)
  have m41 : mReadsKey (up2 S 100 41 0) i (S 228 i) (S 229 i) 100 41 = 0 := (mReadsKey_fr 100 41 (by decide) (by decide) (by decide)).trans (up2_eq _ _ _ _)
  have mr0 : MrD S (mReadsKey (up2 S 100 41 0) i (S 228 i) (S 229 i)) i (fun _ => False) (YS S i) 4 := by
    have := MrD.key (S := up2 S 100 41 0) (i := (i : Int)) (t := S 228 i) (key := S 229 i) (by rw [s41 (by decide)]; omega) t6
    refine (this.eq0 (S0 := S) (fun o a b => (s41 (by omega)).symm)).iff (fun _ _ _ => Iff.rfl) (fun t y => ?_) (by omega)
    unfold YS
    exact ⟨fun z => Or.inr (Or.inl ⟨k0, z⟩), fun z => z.elim (fun z => absurd z.1 k0) (fun z => z.elim (fun z => z.2) (fun z => absurd z.1 k1))⟩
  have hA1 : TrH (alI I i) (mReadsKey (up2 S 100 41 0) i (S 228 i) (S 229 i)) i s := hA.ofS (fun o k ho => by
    rcases ho with ho | ⟨ho, hk'⟩
    · rw [m00 o (by omega) (by omega) (by omega) (by omega)]
    · rw [ho, m1h k (by omega)])
  have e28 : mReadsKey (up2 S 100 41 0) i (S 228 i) (S 229 i) 228 = S 228 := m00 228 (by decide) (by decide) (by decide) (by decide)
  have e29 : mReadsKey (up2 S 100 41 0) i (S 228 i) (S 229 i) 229 = S 229 := m00 229 (by decide) (by decide) (by decide) (by decide)
  have sp := seeP_eq hA g9
  -- found and seen, by either
  have eF : mDelF (mReadsKey (up2 S 100 41 0) i (S 228 i) (S 229 i)) i s (S 228 i) (S 229 i) ↔ seeP (alI I i) i ≠ -1 := by
    rw [sp.1]
    unfold mDelF mSeen mfind
    rw [m00 214 (by decide) (by decide) (by decide) (by decide), m00 215 (by decide) (by decide) (by decide) (by decide), m00 220 (by decide) (by decide) (by decide) (by decide), m00 209 (by decide) (by decide) (by decide) (by decide), m00 210 (by decide) (by decide) (by decide) (by decide), m00 211 (by decide) (by decide) (by decide) (by decide), m00 212 (by decide) (by decide) (by decide) (by decide), m00 213 (by decide) (by decide) (by decide) (by decide), m1h 8 (by decide)]
  have kY : ∀ t y, keY (alI I i) i t y ↔ YS S i t y := fun t y => by
    unfold keY YS
    rw [hpA.1.2, g9]
    exact ⟨fun z => Or.inr (Or.inl ⟨k0, z⟩), fun z => z.elim (fun z => absurd z.1 k0) (fun z => z.elim (fun z => z.2) (fun z => absurd z.1 k1))⟩
  have eQ' : mWantQ (up2 S 100 41 0) i ↔ mDelQ (mReadsKey (up2 S 100 41 0) i (S 228 i) (S 229 i)) i s (S 228 i) (S 229 i) := ⟨fun z => bIn (by rw [← eQ, bI1 z]; decide), fun z => bIn (by rw [eQ, bI1 z]; decide)⟩
  rcases hT.2.2 (by rw [hpA.1.1]; exact k0) (by rw [hpA.1.1]; exact k1) with ⟨c1, q1, q2, q3, q4, q5⟩ | ⟨c1, G, hG, hcl, q1, q2, q3, q4, q5⟩
  · have nF : ¬ mDelF (mReadsKey (up2 S 100 41 0) i (S 228 i) (S 229 i)) i s (S 228 i) (S 229 i) := fun z => eF.mp z c1
    have nQ : ¬ mWantQ (up2 S 100 41 0) i := fun z => nF (eQ'.mp z).1
    rw [mDelI_0 nF] at eW
    refine ⟨by rw [q4, bI0 nQ, bI0 id], ?_, ⟨_, by rw [eW]; exact mr0⟩, fun z => absurd z nQ⟩
    rw [eW]
    exact hrA.step q3 mr0 (fun _ _ _ => Iff.rfl) (fun t y _ _ => kY t y)
  · have yF := eF.mpr c1
    rw [mDelI_1 yF] at eW
    have hD : DlH (alI I i) (mReadsKey (up2 S 100 41 0) i (S 228 i) (S 229 i)) i s G := ⟨hA1, hcp, by rw [e29]; exact g9, c1, hG, hcl⟩
    obtain ⟨d1, d2, d3, d4, d5, d6, d7, d8⟩ := dl_set hD
    have eX : dX (mReadsKey (up2 S 100 41 0) i (S 228 i) (S 229 i)) i s = mDelX (mReadsKey (up2 S 100 41 0) i (S 228 i) (S 229 i)) s (S 228 i) (S 229 i) := by unfold dX; rw [e28, e29]
    rw [← eX] at eW
    have x41 : dX (mReadsKey (up2 S 100 41 0) i (S 228 i) (S 229 i)) i s 100 41 = 0 := (d4 100 41 (by decide) (by decide)).trans m41
    obtain ⟨fr, e41, eL, e240, mr⟩ := mWd_set (X := dX (mReadsKey (up2 S 100 41 0) i (S 228 i) (S 229 i)) i s) (s := s) (i := (i : Int)) (by omega) x41 d6 384 (Nat.le_refl _)
    have mrW : MrD S (mWantI (up2 S 100 41 0) i) i (dlW G) (YS S i) 4 := by
      have m2 := mr.eq (S2 := mWantI (up2 S 100 41 0) i) (fun o a b => by
        rw [eW]
        exact funext (fun k => by unfold mWdE; exact mSortN_fr _ o k (by omega) (by omega)))
      have m3 := m2.eq0 (S0 := mReadsKey (up2 S 100 41 0) i (S 228 i) (S 229 i)) (fun o a b => funext (fun k => (d4 o k (by omega) (by omega)).symm))
      exact (mr0.tr m3 (fun _ _ z => z.elim)).iff (fun t t0 t1 => by rw [del_w hD t t0 t1]; exact ⟨fun z => z.elim False.elim id, Or.inr⟩) (fun t y => ⟨fun z => z.elim id False.elim, Or.inl⟩) (by omega)
    have eok : (¬ ∃ c, 0 ≤ c ∧ c < 192 ∧ rfG G c 0) ↔ mWantQ (up2 S 100 41 0) i := by
      rw [eQ', del_ok hD]
      unfold mDelQ
      rw [← eX]
      exact ⟨fun z => ⟨yF, z⟩, fun z => z.2⟩
    refine ⟨by rw [q4, bIc eok], hrA.step q3 mrW (fun _ _ _ => Iff.rfl) (fun t y _ _ => kY t y), ⟨_, mrW⟩, fun hQ => ?_⟩
    have ok := del_okw hD (fun t => by rw [m00 201 (by decide) (by decide) (by decide) (by decide)]; exact h4 t) (by omega) m41 eW (q5 (eok.mpr hQ)) (by rw [m00 227 (by decide) (by decide) (by decide) (by decide)]; exact k0) (by rw [m00 227 (by decide) (by decide) (by decide) (by decide)]; exact k1)
    unfold OKW at ok ⊢
    rw [e28, e29, m00 227 (by decide) (by decide) (by decide) (by decide), m00 230 (by decide) (by decide) (by decide) (by decide)] at ok
    obtain ⟨n, o1, o2, o3, o4, o5⟩ := ok
    refine ⟨n, o1, o2, o3, fun W2 hf => ?_, o5⟩
    obtain ⟨y1, y2, y3, y4, y5, y6⟩ := o4 W2 hf
    have fS : ∀ k, (mReadsKey (up2 S 100 41 0) i (S 228 i) (S 229 i)) 214 k = S 214 k := fun k => by rw [m00 214 (by decide) (by decide) (by decide) (by decide)]
    have fS5 : ∀ k, (mReadsKey (up2 S 100 41 0) i (S 228 i) (S 229 i)) 215 k = S 215 k := fun k => by rw [m00 215 (by decide) (by decide) (by decide) (by decide)]
    refine ⟨y1, y2, fun t ρ t0 t1 hρ => (rowOk_of (S := S) (fun k => by rw [m00 202 (by decide) (by decide) (by decide) (by decide)]) (fun k => by rw [m00 203 (by decide) (by decide) (by decide) (by decide)]) (fun k => by rw [m00 204 (by decide) (by decide) (by decide) (by decide)]) (fun k => by rw [m00 205 (by decide) (by decide) (by decide) (by decide)])).mp (y3 t ρ t0 t1 hρ), ⟨fun k hk => (y4.1 k hk).trans (fS k), fun z hz => (y4.2 z hz).trans (fS5 z)⟩, y5, fun t ρ t0 t1 hn => (y6 t ρ t0 t1 hn).trans (mIn_of fS fS5)⟩
theorem tri_all (h : TriH I S i l s) (hT : TriP (alI I i) i l l' m r I2) : TriR S i l' s r I2 := by
  by_cases k0 : S 227 i = 0
  · exact tri_ins h k0 hT
  · by_cases k1 : S 227 i = 1
    · exact tri_upd h k1 hT
    · exact tri_del h k0 k1 hT
end
