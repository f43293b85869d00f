/-! an update's and a delete's trial in class and reference -/
section
variable {I S I2 : IT} {i l l' m : Nat} {s : Int} {r : Option AV ⊕ String}
theorem wantFr : ∀ o k, (o < 233 ∨ 243 < o) → (o ≠ 100 ∨ k ≠ 41) → mWantI (up2 S 100 41 0) i o k = S o k := fun o k a b => (mWantI_fr o k a b).trans (by
    by_cases q : o = 100
    · rw [q, up2_k _ _ _ _ (by omega)]
    · rw [s41 q])
theorem chk_fr {W2 W : IT} {t : Int} {ρ : Rw4} (hf : lgFr W W2) (fW : ∀ o k, (o < 233 ∨ 243 < o) → (o ≠ 100 ∨ k ≠ 41) → W o k = S o k) {V : IT} (z2 : ∀ o k, o ≠ 214 → o ≠ 215 → V o k = W2 o k) : rowOk V t ρ ↔ rowOk S t ρ := by
  have f : ∀ o, 201 < o → o < 206 → ∀ k, V o k = S o k := fun o a b k => (z2 o k (by omega) (by omega)).trans ((hf o k (by omega) (Or.inl (by omega))).trans (fW o k (by omega) (Or.inl (by omega))))
  exact rowOk_of (f 202 (by decide) (by decide)) (f 203 (by decide) (by decide)) (f 204 (by decide) (by decide)) (f 205 (by decide) (by decide))
theorem tri_upd (h : TriH I S i l s) (h0 : S 227 i = 1) (hT : TriP (alI I i) i l l' m r I2) : TriR S i l' s r I2 := by
  obtain ⟨hA, hcp, hpA, hrA⟩ := h.A
  have t6 := hA.t6
  obtain ⟨⟨hR, hS⟩, ⟨hE, hW⟩, ⟨hm, hk⟩, ⟨hs, h1⟩, hp, hrd, hn, h4⟩ := h
  have w4 := hS.2.1 (S 228 i) hp.2.1.1 hp.2.1.2
  have hu := hpA.2.2.2.2 h0
  obtain ⟨⟨g9, g10, g11⟩, hc, hv⟩ := hu
  obtain ⟨q1, q2, q3, q4, q5⟩ := hT.2.1 (hpA.1.1.trans h0)
  rw [g10, g11] at q3
  obtain ⟨eW, eQ⟩ := mWant_u (I := up2 S 100 41 0) (i := (i : Int)) (by rw [s41 (by decide), h0]; decide) (by rw [s41 (by decide)]; exact h0)
  rw [s41 (by decide), s41 (by decide)] at eW eQ
  have e3 : ∀ o k, o ≠ 233 → o ≠ 234 → o ≠ 235 → mUpdS (up2 S 100 41 0) i o k = up2 S 100 41 0 o k := fun o k a b c => mUpdS_fr o k a b c
  have e41 : mUpdS (up2 S 100 41 0) i 100 41 = 0 := (e3 100 41 (by decide) (by decide) (by decide)).trans (up2_eq _ _ _ _)
  have fU : ∀ o, o ≠ 233 → o ≠ 234 → o ≠ 235 → o ≠ 100 → mUpdS (up2 S 100 41 0) i o = S o := fun o a b c d => funext (fun k => (e3 o k a b c).trans (by rw [s41 d]))
  have fW := wantFr (S := S) (i := i)
  have h206 := hS.2.2.2.2.2.2.2.2
  -- the reads
  have m0 := MrD.key (S := up2 S 100 41 0) (i := (i : Int)) (t := S 228 i) (key := S 229 i) (by rw [s41 (by decide)]; omega) t6
  have m00 : ∀ o, o ≠ 233 → o ≠ 234 → o ≠ 235 → o ≠ 100 → mReadsKey (up2 S 100 41 0) i (S 228 i) (S 229 i) o = S o := fun o a b c d => funext (fun k => (mReadsKey_fr o k a b c).trans (by rw [s41 d]))
  have m01 := m0.2.2.2.1
  rw [s41 (by decide)] at m01
  have m1 := MrD.ref (S := mReadsKey (up2 S 100 41 0) i (S 228 i) (S 229 i)) (i := (i : Int)) (t := S 228 i) (c := S 230 i) (v := S 231 i) (by omega) (by rw [m00 206 (by decide) (by decide) (by decide) (by decide)]; exact h206 _)
  rw [m00 206 (by decide) (by decide) (by decide) (by decide)] at m1
  have eU : mUpdS (up2 S 100 41 0) i = mReadsRef (mReadsKey (up2 S 100 41 0) i (S 228 i) (S 229 i)) i (S 228 i) (S 230 i) (S 231 i) := by
    unfold mUpdS
    rw [s41 (by decide), s41 (by decide), s41 (by decide), s41 (by decide)]
  have mrW : MrD S (mWantI (up2 S 100 41 0) i) i (fun _ => False) (YS S i) 4 := by
    have := m0.tr m1 (fun t y q => by rw [q.2.2.1]; exact (h206 _).resolve_left q.1)
    refine (((this.eq0 (S0 := S) (fun o a b => (s41 (by omega)).symm)).eq (fun o a b => ?_)).iff (fun _ _ _ => ⟨fun z => z.elim id id, False.elim⟩) (fun t y => ?_) (by omega))
    · rw [eW, eU]; exact funext (fun k => mwants_fr o k (by omega) (by omega) (Or.inl (by omega)))
    · unfold YS
      constructor
      · rintro (z | z)
        · exact Or.inr (Or.inl ⟨by omega, z⟩)
        · exact Or.inr (Or.inr ⟨h0, z⟩)
      · rintro (z | z | z)
        · omega
        · exact Or.inl z.2
        · exact Or.inr z.2
  have eQ' : mWantQ (up2 S 100 41 0) i ↔ updOk (alI I i) i := by
    rw [upd_ok hA ⟨⟨g9, g10, g11⟩, hc, hv⟩]
    have e : mUpdOk (mUpdS (up2 S 100 41 0) i) (mwants (mUpdS (up2 S 100 41 0) i) (S 228 i) (S 229 i)) i ↔ (mfind S s (S 228 i) (S 229 i) ≠ -1 ∧ mSeen S (S 220 i) s (S 228 i) (mfind S s (S 228 i) (S 229 i)) ∧ mCheckOk S (S 228 i) (S 230 i) (S 231 i) ∧ mRefOk S s (S 228 i) (S 230 i) (S 231 i)) := by
      have fV : ∀ o, o ≠ 233 → o ≠ 234 → o ≠ 235 → o ≠ 100 → o ≠ 242 → o ≠ 243 → mwants (mUpdS (up2 S 100 41 0) i) (S 228 i) (S 229 i) o = S o := fun o a b c d e f => funext (fun k => (mwants_fr o k e f (Or.inl d)).trans (congrFun (fU o a b c d) k))
      have v100 : mwants (mUpdS (up2 S 100 41 0) i) (S 228 i) (S 229 i) 100 8 = S 100 8 := by
        rw [mwants_fr 100 8 (by decide) (by decide) (Or.inr (by decide)), e3 100 8 (by decide) (by decide) (by decide), up2_k _ _ _ _ (by decide)]
      unfold mUpdOk mSeen mCheckOk mRefOk mfind
      rw [v100, fU 214 (by decide) (by decide) (by decide) (by decide), fU 215 (by decide) (by decide) (by decide) (by decide), fU 223 (by decide) (by decide) (by decide) (by decide), fU 228 (by decide) (by decide) (by decide) (by decide), fU 229 (by decide) (by decide) (by decide) (by decide), fV 202 (by decide) (by decide) (by decide) (by decide) (by decide) (by decide), fV 203 (by decide) (by decide) (by decide) (by decide) (by decide) (by decide), fV 204 (by decide) (by decide) (by decide) (by decide) (by decide) (by decide), fV 205 (by decide) (by decide) (by decide) (by decide) (by decide) (by decide), fV 206 (by decide) (by decide) (by decide) (by decide) (by decide) (by decide), fV 209 (by decide) (by decide) (by decide) (by decide) (by decide) (by decide), fV 210 (by decide) (by decide) (by decide) (by decide) (by decide) (by decide), fV 211 (by decide) (by decide) (by decide) (by decide) (by decide) (by decide), fV 212 (by decide) (by decide) (by decide) (by decide) (by decide) (by decide), fV 213 (by decide) (by decide) (by decide) (by decide) (by decide) (by decide), fV 214 (by decide) (by decide) (by decide) (by decide) (by decide) (by decide), fV 215 (by decide) (by decide) (by decide) (by decide) (by decide) (by decide), fV 220 (by decide) (by decide) (by decide) (by decide) (by decide) (by decide), fV 223 (by decide) (by decide) (by decide) (by decide) (by decide) (by decide), fV 230 (by decide) (by decide) (by decide) (by decide) (by decide) (by decide), fV 231 (by decide) (by decide) (by decide) (by decide) (by decide) (by decide), hs]
    rw [← e]
    exact ⟨fun z => bIn (by rw [← eQ, bI1 z]; decide), fun z => bIn (by rw [eQ, bI1 z]; decide)⟩
  have eL : wtL (mWantI (up2 S 100 41 0) i) 1 = [(S 228 i, S 229 i)] := by
    rw [eW]
    have := wtL_wants (W := mUpdS (up2 S 100 41 0) i) (t := S 228 i) (key := S 229 i) (n := 0) e41
    rw [Nat.zero_add] at this
    rw [this]; rfl
  refine ⟨by rw [q4, bIc eQ'], hrA.step q3 mrW (fun _ _ _ => Iff.rfl) (fun t y _ _ => ?_), ⟨_, mrW⟩, fun hQ => ?_⟩
  · unfold keY
    rw [hpA.1.2, g9, frY_eq hA.1.1 hpA.1.2 t6 ⟨by omega, by omega⟩]
    unfold YS
    constructor
    · rintro (z | z)
      · exact Or.inr (Or.inl ⟨by omega, z⟩)
      · exact Or.inr (Or.inr ⟨h0, z⟩)
    · rintro (z | z | z)
      · omega
      · exact Or.inl z.2
      · exact Or.inr z.2
  · have hok := eQ'.mp hQ
    obtain ⟨r1, r2, r3⟩ := q5 hok
    have hok' := (upd_ok hA ⟨⟨g9, g10, g11⟩, hc, hv⟩).mp hok
    obtain ⟨p1, ⟨p2, p3, p4⟩, p5, p6, p7, p8, p9⟩ := (seeP_eq hA g9).2 hok.2.1
    have e3' := r3
    rw [hpA.1.2, g9] at r3
    have kr := (hm.2.2 _ _ t6.1 t6.2 p7 p8).2 0 (by decide) (by decide)
    rw [Int.add_zero, p9] at kr
    have k1 := kr.resolve_left p5
    have rwAll : ∀ W2, lgFr (mWantI (up2 S 100 41 0) i) W2 → _ := fun W2 hf => upd_rw hA ⟨⟨g9, g10, g11⟩, hc, hv⟩ hok ⟨r1, r2, e3'⟩ (mdoes_upd (W2 := W2) (s := s) (i := i) (S := S) hf fW h0).1 (fun o k ho => ((mdoes_upd (W2 := W2) (s := s) (i := i) (S := S) hf fW h0).2 o k (by omega) (by omega)).trans ((hf o k (by omega) (Or.inl (by omega))).trans (fW o k (by omega) (Or.inl (by omega)))))
    refine ⟨1, ⟨?_, by decide, r2, by rw [r3, eL]⟩, fun x hx => ?_, (rwAll _ (fun _ _ _ _ => rfl)).2.1, fun W2 hf => ?_, fun z => by omega, fun _ => ⟨?_, by omega, by omega⟩, fun _ z => absurd h0 z⟩
    · rw [eW, mwants_41, e41]; rfl
    · rw [eL] at hx
      rw [List.mem_singleton.mp hx]
      exact ⟨t6, k1⟩
    · obtain ⟨z1, z2⟩ := mdoes_upd (W2 := W2) (s := s) (i := i) (S := S) hf fW h0
      obtain ⟨y1, y2, y3, y4⟩ := rwAll W2 hf
      have m1 := mIn_upd (S := S) (S' := mDoesS W2 i s (S 228 i)) hm ⟨p7, p8⟩ t6 ⟨hc.1, by omega⟩ z1.1 z1.2
      refine ⟨y1, y3, fun t ρ t0 t1 hρ => (chk_fr hf fW z2).mp (y4 t ρ t0 t1 hρ), ⟨fun k _ => z1.1 k, fun z hz => by rw [z1.2, if_neg (by have := (hm.1 _ t6.1 t6.2); unfold mrow; omega)]⟩, z2, fun t ρ t0 t1 hn => ?_⟩
      rw [m1 t ρ t0 t1, p9]
      have nk : ¬ (t = S 228 i ∧ ρ.1 = S 229 i) := fun z => hn (by rw [eL, z.1, z.2]; exact List.mem_singleton.mpr rfl)
      constructor
      · rintro ⟨σ, a, b⟩
        by_cases z : t = S 228 i ∧ σ.1 = S 229 i
        · rw [if_pos z] at b
          exact absurd ⟨z.1, by rw [b, st4_1 hc.1]; exact z.2⟩ nk
        · rw [if_neg z] at b
          rw [b]; exact a
      · intro a
        exact ⟨ρ, a, by rw [if_neg nk]⟩
    · unfold mfind at *
      have e14 : mWantI (up2 S 100 41 0) i 214 = S 214 := funext (fun k => fW 214 k (by omega) (Or.inl (by decide)))
      have e15 : mWantI (up2 S 100 41 0) i 215 = S 215 := funext (fun k => fW 215 k (by omega) (Or.inl (by decide)))
      rw [e14, e15]
      exact hok'.1
end
