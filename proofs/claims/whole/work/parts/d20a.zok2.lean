/-! a try keeps the account and its bounds -/
section
variable {I S B T W : IT} {k n N g i : Nat} {q : Int} {lv mv : Nat → Nat}
theorem try1_tyw (hE : ER I S n N g lv mv q) (o0 : S 221 i = 0) : TyW (mWantI (up2 S 100 41 0) i) (mTry1 S i) i N := by
  have s44 : S 100 44 = N := hE.cnt.2.1
  have w44 : mWantI (up2 S 100 41 0) i 100 44 = N := (want_fr 100 44 (by decide) (by decide) (Or.inr (by decide))).trans s44
  have w21 : mWantI (up2 S 100 41 0) i 221 i < 3 := by rw [want_fr 221 i (by decide) (by decide) (Or.inl (by decide)), o0]; decide
  unfold mTry1
  have up : ∀ (X : IT) (v : Int), TyW (mWantI (up2 S 100 41 0) i) X i N → TyW (mWantI (up2 S 100 41 0) i) (up2 X 222 i v) i N := fun X v hX => by
    obtain ⟨a, b, c, L, d1, d2, d3, d4⟩ := hX
    refine ⟨fun o y h1 h2 h3 h4 h5 h6 h7 h8 => (up2_o _ _ _ _ h4).trans (a o y h1 h2 h3 h4 h5 h6 h7 h8), fun y hy => ⟨(up2_o _ _ _ _ (by decide)).trans (b y hy).1, (up2_o _ _ _ _ (by decide)).trans (b y hy).2⟩, ?_, L, (up2_o _ _ _ _ (by decide)).trans d1, fun r hr => ?_, fun j x hx => ?_, ?_⟩
    · rw [up2_o _ _ _ _ (by decide)]; exact c
    · rw [up2_o _ _ _ _ (by decide), up2_o _ _ _ _ (by decide), up2_o _ _ _ _ (by decide), up2_o _ _ _ _ (by decide)]; exact d2 r hr
    · rw [up2_o _ _ _ _ (by decide), up2_o _ _ _ _ (by decide)]; exact d3 j x hx
    · rw [up2_o _ _ _ _ (by decide)]; exact d4
  refine up _ _ ?_
  by_cases hQ : mWantQ (up2 S 100 41 0) i
  · have b1 : bI (mWantQ (up2 S 100 41 0) i) ≠ 0 := by rw [bI1 hQ]; decide
    rw [(mTries_1 b1).1]
    exact try_tyw w44 w21
  · rw [(mTries_0 (bI0 hQ)).1]
    exact ⟨fun _ _ _ _ _ _ _ _ _ _ => rfl, fun _ _ => ⟨rfl, rfl⟩, Or.inl rfl, [], w44, fun _ _ => ⟨rfl, rfl, rfl, rfl⟩, fun j x hx => by simp at hx, Or.inl ⟨w21, fun x hx => by cases hx⟩⟩
/-- what a try starts from, when it has told what it wants -/
def WaS (S W : IT) (i : Nat) : Prop := (∀ o y, ¬ (233 ≤ o ∧ o ≤ 236) → ¬ (239 ≤ o ∧ o ≤ 243) → (o ≠ 100 ∨ y ≠ 41) → W o y = S o y) ∧ (∀ x : Int, x ≠ i → W 233 x = S 233 x) ∧ ∀ x : Int, ¬ (6 * (i : Int) ≤ x ∧ x < 6 * i + 6) → W 236 x = S 236 x
theorem WaS.rf : WaS S S i := ⟨fun _ _ _ _ _ => rfl, fun _ _ => rfl, fun _ _ => rfl⟩
theorem WaS.want : WaS S (mWantI (up2 S 100 41 0) i) i := ⟨fun o y a b c => want_fr o y a b c, fun x hx => want_233 hx, fun x hx => want_236 hx⟩
/-- its frame -/
theorem TyW.fr (h : TyW W T i N) (hW : WaS S W i) (o : Nat) (y : Int) (hn : ¬ tyX o y) : T o y = S o y := by
  unfold tyX at hn
  rw [h.1 o y (by omega) (by omega) (by omega) (by omega) (by omega) (by omega) (by omega) (by omega)]
  exact hW.1 o y (by omega) (by omega) (by omega)
theorem ZI.tyw {k0 : Nat} {i0 : Int} (h : ZI k0 i0 S) (zA : ZA k (-1) T) (hE : ER I S n N g lv mv q) (hi : i < n) (o0 : S 221 i < 2) (hW : WaS S W i) (hTW : TyW W T i N) : ZI k (-1) T := by
  obtain ⟨-, hwt, hw, hr, hc, hab, hen⟩ := h
  have s44 : S 100 44 = N := hE.cnt.2.1
  have s19 : S 100 19 = n := hE.cnt.1
  have s45 := hE.sp.2.1
  have fr := hTW.fr hW
  obtain ⟨w1, w2, w3⟩ := hW
  have w44 : W 100 44 = N := (w1 100 44 (by decide) (by decide) (Or.inr (by decide))).trans s44
  obtain ⟨f1, f2, f3, L, d1, d2, d4, d5⟩ := hTW
  have t0 : T 100 0 = S 100 0 := fr 100 0 (by unfold tyX; omega)
  have t19 : T 100 19 = S 100 19 := fr 100 19 (by unfold tyX; omega)
  have t45 : T 100 45 = S 100 45 := fr 100 45 (by unfold tyX; omega)
  have w21 : ∀ y : Int, W 221 y = S 221 y := fun y => w1 221 y (by decide) (by decide) (Or.inl (by decide))
  have wr6 : ∀ r : Int, W 246 r = S 246 r ∧ W 247 r = S 247 r ∧ W 248 r = S 248 r ∧ W 249 r = S 249 r := fun r => ⟨w1 246 r (by decide) (by decide) (Or.inl (by decide)), w1 247 r (by decide) (by decide) (Or.inl (by decide)), w1 248 r (by decide) (by decide) (Or.inl (by decide)), w1 249 r (by decide) (by decide) (Or.inl (by decide))⟩
  have old : ∀ r : Int, ¬ ((N : Int) ≤ r ∧ r < N + L.length) → T 246 r = S 246 r ∧ T 247 r = S 247 r ∧ T 248 r = S 248 r ∧ T 249 r = S 249 r := fun r hr => by
    obtain ⟨a, b, c, d⟩ := d2 r hr
    obtain ⟨a', b', c', d'⟩ := wr6 r
    rw [a, b, c, d, a', b', c', d']
    exact ⟨rfl, rfl, rfl, rfl⟩
  have new : ∀ r : Int, (N : Int) ≤ r → r < N + L.length → ∃ x, x ∈ L ∧ T 246 r = x.1 ∧ T 247 r = x.2.1 := fun r r0 r1 => by
    obtain ⟨m, hm⟩ : ∃ m : Nat, r = ((N + m : Nat) : Int) := ⟨(r - N).toNat, by omega⟩
    have lm : m < L.length := by omega
    obtain ⟨x, hx⟩ : ∃ x, L[m]? = some x := ⟨_, List.getElem?_eq_getElem lm⟩
    rw [hm]
    exact ⟨x, List.mem_of_getElem? hx, d4 m x hx⟩
  have kind : ∀ x, x ∈ L → (x.1 = 0 ∨ x.1 = 2 ∨ x.1 = 3) ∧ x.2.1 = i ∧ (x.1 = 0 → T 221 i = S 221 i) := fun x hx => by
    rcases d5 with ⟨-, z⟩ | ⟨-, z⟩
    · obtain ⟨a, b, c⟩ := z x hx
      rw [w21] at c
      exact ⟨Or.inl a, b, fun _ => c⟩
    · rw [z] at hx
      have m := abM_mem hx
      exact ⟨Or.inr m.1, m.2, fun y => by omega⟩
  refine ⟨zA, fun r r0 r1 r2 => ?_, fun x x0 x1 => ?_, ⟨fun j j0 => ?_, fun j j0 j1 t t0 t1 => ?_⟩, fun r r0 r1 r2 => ?_, ?_, fun j hj h21 hx => ?_⟩
  · rw [t0]
    by_cases y : (N : Int) ≤ r ∧ r < N + L.length
    · obtain ⟨x, hx, e1, e2⟩ := new r y.1 y.2
      rw [e1] at r2
      obtain ⟨-, e3, e4⟩ := kind x hx
      obtain ⟨Kv, E, d, b, cB, chk, hK, -⟩ := zA
      have iT : i < nS T := by
        unfold nS
        rw [t19, s19, Int.toNat_natCast]
        exact hi
      have oT : opA T i := by
        unfold opA
        rw [e4 r2]
        exact o0
      have mem := (hK.2.2 i iT oT).2 (T 248 r, T 249 r) ⟨r, r0, r1, by rw [e1]; exact r2, by rw [e2]; exact e3, rfl, rfl⟩
      have w := hK.1.2 _ mem
      have v1 : 1 ≤ T 201 (T 248 r) := w.1.1
      have v2 : T 248 r < 6 := w.2.2
      rw [fr 201 _ (by unfold tyX; omega)] at v1
      have hs := hE.sch.2
      by_cases z : T 248 r < S 100 0
      · exact z
      · have := (hs.2.2.1 (T 248 r) (by omega) v2).1
        omega
    · obtain ⟨a, -, c, -⟩ := old r y
      rw [c]
      rw [d1] at r1
      exact hwt r r0 (by rw [s44]; omega) (by rw [← a]; exact r2)
  · by_cases e : x = (i : Int)
    · rw [e]
      rcases f3 with z | z | ⟨z, z2⟩
      · rw [z, w1 225 i (by decide) (by decide) (Or.inl (by decide))]
        exact hw i (by omega) (by omega)
      · exact Or.inl z
      · rw [z]
        refine mOth_rg (fun j j0 j1 j2 => ?_) _
        rw [w44] at j1
        rw [(wr6 j).1] at j2
        rw [(wr6 j).2.1]
        have l1 := (hE.lr.1 j j0 j1).2 (by omega)
        have := hE.cnt.2.2.1
        omega
    · rw [(f2 x e).2, w1 225 x (by decide) (by decide) (Or.inl (by decide))]
      exact hw x x0 x1
  · rw [t19, s19] at j0
    rw [f1 233 j (by decide) (by decide) (by decide) (by decide) (by decide) (by decide) (Or.inl (by decide)) (Or.inl (by decide)), w2 j (by omega)]
    exact hr.1 j (by rw [s19]; exact j0)
  · rw [t19, s19] at j0
    rw [f1 236 _ (by decide) (by decide) (by decide) (by decide) (by decide) (by decide) (Or.inl (by decide)) (Or.inl (by decide)), w3 _ (by omega)]
    exact hr.2 j (by rw [s19]; exact j0) j1 t t0 t1
  · rw [t45]
    by_cases y : (N : Int) ≤ r ∧ r < N + L.length
    · obtain ⟨x, hx, e1, e2⟩ := new r y.1 y.2
      rw [e1] at r2
      have := (kind x hx).1
      omega
    · obtain ⟨a, -, -, -⟩ := old r y
      rw [d1] at r1
      rw [a] at r2
      exact hc r r0 (by rw [s44]; omega) r2
  · rcases d5 with ⟨-, z⟩ | ⟨-, z⟩
    · intro r r0 r1 r2
      rw [t45] at r0
      rw [d1] at r1
      have yn : ¬ ((N : Int) ≤ (r : Int) ∧ (r : Int) < N + L.length) := fun y => by
        obtain ⟨x, hx, e1, -⟩ := new r y.1 y.2
        have := (z x hx).1
        omega
      obtain ⟨a, b, -, -⟩ := old r yn
      rw [a] at r2
      have oldp : ∀ p : Nat, p < r → T 246 p = S 246 p ∧ T 247 p = S 247 p := fun p hp => by
        have := old p (by omega)
        exact ⟨this.1, this.2.1⟩
      rw [b, un_same r oldp, nUn_of oldp]
      exact hab r r0 (by rw [s44]; omega) r2
    · exact hab.aborts s44 (by omega) z (fun r _ => ⟨(wr6 r).1, (wr6 r).2.1⟩) t45 d1 (fun r hr => ⟨(old r hr).1, (old r hr).2.1⟩) d4
  · rw [t19] at hj
    by_cases e : j = i
    · subst e
      rcases d5 with ⟨z, -⟩ | ⟨-, z⟩
      · omega
      · have len : (unM W j N).length < L.length := by rw [z]; unfold abM; rw [List.length_append]; exact Nat.lt_succ_self _
        have last : L[(unM W j N).length]? = some (3, (j : Int), -2147483648, -2147483648) := by
          rw [z]; unfold abM
          rw [List.getElem?_append_right (Nat.le_refl _), Nat.sub_self]; rfl
        obtain ⟨c1, c2⟩ := d4 _ _ last
        exact ⟨_, by omega, by rw [d1]; omega, c1, c2⟩
    · have ne : (j : Int) ≠ (i : Int) := fun z => e (by omega)
      rw [(f2 j ne).1, w21] at h21
      obtain ⟨r, r0, r1, r2, r3⟩ := hx
      have yn : ¬ ((N : Int) ≤ r ∧ r < N + L.length) := fun y => by
        obtain ⟨x, hx, -, e2⟩ := new r y.1 y.2
        have := (kind x hx).2.1
        omega
      rw [d1] at r1
      obtain ⟨a, b, -, -⟩ := old r yn
      obtain ⟨p, p0, p1, p2, p3⟩ := hen j hj h21 ⟨r, r0, by rw [s44]; omega, by rw [← a]; exact r2, by rw [← b]; exact r3⟩
      obtain ⟨a', b', -, -⟩ := old p (by rw [s44] at p1; omega)
      exact ⟨p, p0, by rw [d1]; rw [s44] at p1; omega, a'.trans p2, b'.trans p3⟩
/-- a try leaves what is committed -/
theorem try1_st4 {l : Nat} (hE : ER I S n N g lv mv q) (hT : TriH I S i l (S 223 i)) : St4 S (mTry1 S i) := by
  have s44 : S 100 44 = N := hE.cnt.2.1
  have w44 : mWantI (up2 S 100 41 0) i 100 44 = N := (want_fr 100 44 (by decide) (by decide) (Or.inr (by decide))).trans s44
  have w14 : mWantI (up2 S 100 41 0) i 214 = S 214 := funext (fun y => want_fr 214 y (by decide) (by decide) (Or.inl (by decide)))
  have w15 : mWantI (up2 S 100 41 0) i 215 = S 215 := funext (fun y => want_fr 215 y (by decide) (by decide) (Or.inl (by decide)))
  have p4 := hE.mb.pla i
  have fin : ∀ X : IT, X 214 = S 214 → X 215 = S 215 → ∀ v, St4 S (up2 X 222 i v) := fun X a b v => St4.of ((funext (fun y => up2_o _ _ _ _ (by decide))).trans a) ((funext (fun y => up2_o _ _ _ _ (by decide))).trans b)
  have ab : mAborts (mWantI (up2 S 100 41 0) i) i 214 = S 214 ∧ mAborts (mWantI (up2 S 100 41 0) i) i 215 = S 215 := by
    obtain ⟨T, hX, eA, -⟩ := mAborts_X (S := mWantI (up2 S 100 41 0) i) (i := (i : Int)) w44
    rw [eA]
    exact ⟨(funext (fun y => (mends_o 214 y (by decide) (by decide) (by decide)).trans (hX.1 214 y (Or.inl (by decide)) (Or.inl (by decide))))).trans w14, (funext (fun y => (mends_o 215 y (by decide) (by decide) (by decide)).trans (hX.1 215 y (Or.inl (by decide)) (Or.inl (by decide))))).trans w15⟩
  unfold mTry1
  by_cases hQ : mWantQ (up2 S 100 41 0) i
  · have b1 : bI (mWantQ (up2 S 100 41 0) i) ≠ 0 := by rw [bI1 hQ]; decide
    rw [(mTries_1 b1).1]
    by_cases c1 : mOth (mWantI (up2 S 100 41 0) i) i (mWantI (up2 S 100 41 0) i 100 41).toNat = -1
    · by_cases c2 : mLate (mWantI (up2 S 100 41 0) i) i
      · rw [(mTry_late c1 c2).1]; exact fin _ ab.1 ab.2 _
      · rw [(mTry_done c1 c2).1]
        have hX := mLog_X (S := mWantI (up2 S 100 41 0) i) (i := (i : Int)) w44 (mWantI (up2 S 100 41 0) i 100 41).toNat
        have hF := wr_all hT hQ (W2 := mLog (mWantI (up2 S 100 41 0) i) i (mWantI (up2 S 100 41 0) i 100 41).toNat) hX.1
        have sl : SlF S (mDoesS (mLog (mWantI (up2 S 100 41 0) i) i (mWantI (up2 S 100 41 0) i 100 41).toNat) i (S 223 i) (S 228 i)) (S 223 i) := hF.choose_spec.2.2.2.2.2.2.2.2.2.2
        have eD : mDoes (mWantI (up2 S 100 41 0) i) i = mDoesS (mLog (mWantI (up2 S 100 41 0) i) i (mWantI (up2 S 100 41 0) i 100 41).toNat) i (S 223 i) (S 228 i) := by
          unfold mDoes
          rw [want_fr 223 i (by decide) (by decide) (Or.inl (by decide)), want_fr 228 i (by decide) (by decide) (Or.inl (by decide))]
        rw [eD]
        refine ⟨fun k hk => (up2_o _ _ _ _ (by decide)).trans (sl.1 k (by omega)), fun z hz => (up2_o _ _ _ _ (by decide)).trans (sl.2 z (by omega))⟩
    · by_cases c2 : mCh (mWantI (up2 S 100 41 0) i) i 60 (mOth (mWantI (up2 S 100 41 0) i) i (mWantI (up2 S 100 41 0) i 100 41).toNat) = i
      · rw [(mTry_vict c1 c2).1]; exact fin _ ab.1 ab.2 _
      · rw [(mTry_wait c1 c2).1]
        refine fin _ ?_ ?_ _
        · exact (funext (fun y => (up2_o _ _ _ _ (by decide)).trans (up2_o _ _ _ _ (by decide)))).trans w14
        · exact (funext (fun y => (up2_o _ _ _ _ (by decide)).trans (up2_o _ _ _ _ (by decide)))).trans w15
  · rw [(mTries_0 (bI0 hQ)).1]; exact fin _ w14 w15 _
/-- a try -/
theorem ZB.try1 (h : ZB B k i S) (hE : ER I S n N g lv mv q) (hi : i < n) (o0 : S 221 i = 0) (hp : PdE I S i) : ZB B k (-1) (mTry1 S i) := by
  have hT := hE.trih hi o0 hp (h.2.2.1 (by omega))
  have hTW := try1_tyw hE o0
  exact ⟨h.1.tyw (h.1.1.try1 hE hT hi o0) hE hi (by rw [o0]; decide) WaS.want hTW, fun o y hn => (hTW.fr WaS.want o y hn).trans (h.2.1 o y hn), fun z => absurd z (by decide), h.2.2.2.tr (try1_st4 hE hT)⟩
/-- the property that settling asks for -/
theorem ZB.ok (k5 : k ≤ 512) : ZOK (ZB B k) := by
  refine ⟨fun I S n N g lv mv q i hE hi hf h => h.go hE hi hf, fun I S n N g lv mv q i hE hi o0 hp h => ⟨fun hQ => ?_, h.try1 hE hi o0 hp⟩⟩
  exact h.1.1.rc hE (hE.trih hi o0 hp (h.2.2.1 (by omega))) hi o0 hQ k5 h.1.2.2.1
end
