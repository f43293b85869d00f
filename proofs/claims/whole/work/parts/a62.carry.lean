section
variable {K : KT} {P : PT} {J I : IT}
/-- the footprints that a transaction has noted -/
def FpS (I : IT) (i m : Nat) (z : Int) : Prop := ∃ q : Int, 0 ≤ q ∧ q < I (tX i) 17 ∧ I (tX i + 80 + m) q = z
noncomputable def wrL (I : IT) (i : Nat) (L : List (Int × Int)) : List (Int → Int) := L.map (fun x => rcR 0 i x.1 x.2 (fun z => rwCell I (tX i + 33) x.1 x.2 z))
/-- rows written: records, writers, footprints -/
def CoD (I I' : IT) (i l m m' g g' n : Nat) (L : List (Int × Int)) : Prop :=
  LgX I I' g g' n (wrL I i L) ∧
  ((∀ k, k ≠ 17 → I' (tX i) k = I (tX i) k) ∧ I' (tX i + 13) = I (tX i + 13) ∧ I' (tX i + 33) = I (tX i + 33) ∧ I' (tX i + 40 + l) = I (tX i + 40 + l) ∧ I' (tX i + 60 + l) = I (tX i + 60 + l)) ∧
  (∀ z : Int, ((∃ x ∈ L, fpO x.1 x.2 = z) → I' 1069 z = i) ∧ (¬ (∃ x ∈ L, fpO x.1 x.2 = z) → I' 1069 z = I 1069 z)) ∧
  (∀ z, FpS I' i m' z ↔ FpS I i m z ∨ ((∃ x ∈ L, fpO x.1 x.2 = z) ∧ I 1069 z ≠ i)) ∧
  (I (tX i) 17 ≤ I' (tX i) 17 ∧ I' (tX i) 17 ≤ I (tX i) 17 + L.length)
theorem CoD.rf {i l m g n : Nat} : CoD I I i l m m g g n [] := ⟨LgX.rf, ⟨fun _ _ => rfl, rfl, rfl, rfl, rfl⟩, fun z => ⟨fun ⟨x, h, _⟩ => (by cases h), fun _ => rfl⟩, fun z => ⟨Or.inl, fun h => h.elim id (fun ⟨⟨x, h, _⟩, _⟩ => (by cases h))⟩, Int.le_refl _, by simp⟩
theorem rwCell_of {T : IT} {a : Nat} (h : T a = I a) (t y c : Int) : rwCell T a t y c = rwCell I a t y c := by
  unfold rwCell
  rw [(rwF_of h t y).2, h]
theorem CoD.tr {I1 I2 : IT} {i l m m1 m2 g g1 g2 n : Nat} {L1 L2 : List (Int × Int)} (h1 : CoD I I1 i l m m1 g g1 n L1) (h2 : CoD I1 I2 i l m1 m2 g1 g2 (n + L1.length) L2) : CoD I I2 i l m m2 g g2 n (L1 ++ L2) := by
  obtain ⟨a1, ⟨a2, a3, a4, a5, a6⟩, a7, a8, a9⟩ := h1
  obtain ⟨b1, ⟨b2, b3, b4, b5, b6⟩, b7, b8, b9⟩ := h2
  have ew : wrL I1 i L2 = wrL I i L2 := by
    unfold wrL
    refine List.map_congr_left (fun x _ => ?_)
    have : (fun z => rwCell I1 (tX i + 33) x.1 x.2 z) = (fun z => rwCell I (tX i + 33) x.1 x.2 z) := funext (fun z => rwCell_of a4 _ _ _)
    rw [this]
  have ex2 : ∀ z, (∃ x ∈ L1 ++ L2, fpO x.1 x.2 = z) ↔ (∃ x ∈ L1, fpO x.1 x.2 = z) ∨ ∃ x ∈ L2, fpO x.1 x.2 = z := fun z => ⟨fun ⟨x, hx, e⟩ => (List.mem_append.mp hx).elim (fun h => Or.inl ⟨x, h, e⟩) (fun h => Or.inr ⟨x, h, e⟩), fun h => h.elim (fun ⟨x, hx, e⟩ => ⟨x, List.mem_append_left _ hx, e⟩) (fun ⟨x, hx, e⟩ => ⟨x, List.mem_append_right _ hx, e⟩)⟩
  refine ⟨?_, ⟨fun k hk => (b2 k hk).trans (a2 k hk), b3.trans a3, b4.trans a4, b5.trans a5, b6.trans a6⟩, fun z => ⟨fun h => ?_, fun h => ?_⟩, fun z => ?_, by omega, ?_⟩
  · have e : wrL I i (L1 ++ L2) = wrL I i L1 ++ wrL I i L2 := by unfold wrL; rw [List.map_append]
    rw [e]
    refine LgX.tr a1 ?_
    rw [ew] at b1
    have : (wrL I i L1).length = L1.length := by unfold wrL; rw [List.length_map]
    rw [this]
    exact b1
  · by_cases h2 : ∃ x ∈ L2, fpO x.1 x.2 = z
    · exact (b7 z).1 h2
    · rw [(b7 z).2 h2]
      exact (a7 z).1 (((ex2 z).mp h).resolve_right h2)
  · rw [(b7 z).2 (fun q => h ((ex2 z).mpr (Or.inr q)))]
    exact (a7 z).2 (fun q => h ((ex2 z).mpr (Or.inl q)))
  · rw [b8 z, a8 z, ex2 z]
    by_cases q : ∃ x ∈ L1, fpO x.1 x.2 = z
    · have := (a7 z).1 q
      constructor
      · rintro ((h | h) | h)
        · exact Or.inl h
        · exact Or.inr ⟨Or.inl h.1, h.2⟩
        · exact absurd this h.2
      · rintro (h | h)
        · exact Or.inl (Or.inl h)
        · exact Or.inl (Or.inr ⟨q, h.2⟩)
    · have := (a7 z).2 q
      constructor
      · rintro ((h | h) | h)
        · exact Or.inl h
        · exact absurd h.1 q
        · exact Or.inr ⟨Or.inr h.1, fun e => h.2 (this.trans e)⟩
      · rintro (h | ⟨h | h, h'⟩)
        · exact Or.inl (Or.inl h)
        · exact absurd h q
        · exact Or.inr ⟨h, fun e => h' (this.symm.trans e)⟩
  · rw [List.length_append]
    omega
def nCo (i o : Nat) : Prop := nTx i o ∨ nLg o ∨ o = 1069
theorem Fr.of2 {A : Nat → Prop} {o : Nat} {z v : Int} (h : A o) : Fr A K P I K P (up2 I o z v) := fun q hq => ⟨rfl, rfl, funext (fun k => up2_o _ _ _ _ (fun e => hq (e ▸ h)))⟩
end
/-- a row of a trial, written -/
theorem carry_one {K : KT} {P : PT} {J I : IT} {i l m g n : Nat} {t y : Int} (hC : ClW K P) (hT : TxV K P i l m) (hN : TxN I i l m) (hi : i < 60) (hV : LgV K P g) (hL : LgN I g n) (hn : n < 16384) (ht : 0 ≤ t ∧ t < 6) (hy : -1000 ≤ y ∧ y ≤ 1000) (hb : I (tX i) 17 < 100000) :
    ∃ (m' g' c q c2 q2 : Nat) (K1 : KT) (P1 : PT) (I1 : IT) (K' : KT) (P' : PT) (I' : IT), (ClW K' P' ∧ TxV K' P' i l m' ∧ TxN I' i l m' ∧ LgV K' P' g' ∧ LgN I' g' (n + 1)) ∧ Fr (nCo i) K P I K' P' I' ∧ (c + m = m' ∧ c2 + g = g' ∧ q + pf m = pf m' ∧ q2 + lgP g = lgP g') ∧ CoD I I' i l m m' g g' n [(t, y)] ∧
      (ClW K1 P1 ∧ TxV K1 P1 i l m' ∧ Fr (nCo i) K P I K1 P1 I1 ∧ I1 (tX i) 0 = I (tX i) 0) ∧
      (I 1069 (fpO t y) = i → K1 = K ∧ P1 = P ∧ I1 = I ∧ c = 0 ∧ q = 0) ∧
      (I 1069 (fpO t y) ≠ i → Sp m_Transaction_noteFootprint false ({ frames := 2, cells := c, slots := q, locals := 90 } : Room) (ex K1 P1 J I1 (.inl none)) K P J (up2 I 1069 (fpO t y) i) [vR (some (tX i)), vI (fpO t y)]) ∧
      Sp m_Log_addWrite false ({ frames := 3, cells := c2, slots := q2, locals := 140 } : Room) (ex K' P' J I' (.inl none)) K1 P1 J I1 [vR (some 1192), vI i, vI t, vI y, vR (some (tX i + 32))] := by
  have x0 : 2000 ≤ tX i ∧ tX i + 128 ≤ 10000 := by unfold tX; omega
  have fr := fpO_rg (y := y) ht
  have fp0 : 0 ≤ fpO t y ∧ fpO t y < 12006 := by
    unfold fpO at *
    rw [if_pos hy] at fr ⊢
    omega
  have nl : ∀ o, nTx i o → ¬ nLg o := fun o h => lg_tx hi h
  have n33 : nTx i (tX i + 33) := by unfold nTx; omega
  have n32 : nTx i (tX i + 32) := by unfold nTx; omega
  have nx : nTx i (tX i) := by unfold nTx; omega
  -- behind the footprint
  have main : ∀ (m' : Nat) (K1 : KT) (P1 : PT) (I1 : IT), ClW K1 P1 → TxV K1 P1 i l m' → TxN I1 i l m' → LgV K1 P1 g → LgN I1 g n → (∀ o, ¬ nTx i o → o ≠ 1069 → I1 o = I o) → ((∀ k, k ≠ 17 → I1 (tX i) k = I (tX i) k) ∧ I1 (tX i + 13) = I (tX i + 13) ∧ I1 (tX i + 33) = I (tX i + 33) ∧ I1 (tX i + 40 + l) = I (tX i + 40 + l) ∧ I1 (tX i + 60 + l) = I (tX i + 60 + l)) →
      (∀ z : Int, (fpO t y = z → I1 1069 z = i) ∧ (fpO t y ≠ z → I1 1069 z = I 1069 z)) → (∀ z, FpS I1 i m' z ↔ FpS I i m z ∨ (fpO t y = z ∧ I 1069 z ≠ i)) → (I (tX i) 17 ≤ I1 (tX i) 17 ∧ I1 (tX i) 17 ≤ I (tX i) 17 + 1) →
      ∃ (g' c2 q2 : Nat) (K' : KT) (P' : PT) (I' : IT), (ClW K' P' ∧ TxV K' P' i l m' ∧ TxN I' i l m' ∧ LgV K' P' g' ∧ LgN I' g' (n + 1)) ∧ Fr nLg K1 P1 I1 K' P' I' ∧ (c2 + g = g' ∧ q2 + lgP g = lgP g') ∧ CoD I I' i l m m' g g' n [(t, y)] ∧ Sp m_Log_addWrite false ({ frames := 3, cells := c2, slots := q2, locals := 140 } : Room) (ex K' P' J I' (.inl none)) K1 P1 J I1 [vR (some 1192), vI i, vI t, vI y, vR (some (tX i + 32))] := by
    intro m' K1 P1 I1 C1 T1 N1 V1 L1 f1 e1 w1 s1 b1
    obtain ⟨g', c2, q2, K', P', I', ⟨v1, v2⟩, f2, r2, x2, sp⟩ := log_write (J := J) (i := (i : Int)) (t := t) (y := y) V1 L1 hn T1.rows ⟨nl _ n32, nl _ n33⟩ ht
    have fl : ∀ o, nTx i o → K' o = K1 o ∧ P' o = P1 o ∧ I' o = I1 o := fun o ho => f2 o (nl o ho)
    have T2 := T1.fl (fun o ho => ⟨(fl o ho).1, (fl o ho).2.1⟩)
    have el : ∀ j, j < 128 → I' (tX i + j) = I1 (tX i + j) := fun j hj => (fl (tX i + j) (by unfold nTx; omega)).2.2
    have e0 := el 0 (by decide)
    rw [Nat.add_zero] at e0
    have l15 := T1.2.2.2.2
    have e40 := el (40 + l) (by omega)
    have e60 := el (60 + l) (by omega)
    have e80 := el (80 + m') (by omega)
    rw [← Nat.add_assoc] at e40 e60 e80
    have N2 : TxN I' i l m' := by
      unfold TxN at *
      rw [e0, e40, e80]
      exact N1
    have C2 := C1.lg V1 v1 f2
    refine ⟨g', c2, q2, K', P', I', ⟨C2, T2, N2, v1, v2⟩, f2, r2, ?_, sp⟩
    have ew : I' 1069 = I1 1069 := (f2 1069 (by unfold nLg; omega)).2.2
    have em : ∀ z, (∃ x ∈ [(t, y)], fpO x.1 x.2 = z) ↔ fpO t y = z := fun z => ⟨fun ⟨x, hx, e⟩ => by rw [List.mem_singleton.mp hx] at e; exact e, fun h => ⟨_, List.mem_singleton.mpr rfl, h⟩⟩
    refine ⟨?_, ⟨fun k hk => (congrFun e0 k).trans (e1.1 k hk), (el 13 (by decide)).trans e1.2.1, (el 33 (by decide)).trans e1.2.2.1, e40.trans e1.2.2.2.1, e60.trans e1.2.2.2.2⟩, fun z => ?_, fun z => ?_, ?_⟩
    · have e5 : wrL I i [(t, y)] = [rcR 0 i t y (fun z => rwCell I1 (tX i + 33) t y z)] := by
        unfold wrL
        have : (fun z => rwCell I (tX i + 33) t y z) = (fun z => rwCell I1 (tX i + 33) t y z) := funext (fun z => (rwCell_of e1.2.2.1 _ _ _).symm)
        show [rcR 0 i t y (fun z => rwCell I (tX i + 33) t y z)] = _
        rw [this]
      rw [e5]
      have g19 : 12000 + g ≠ 1069 := by omega
      have gl : ¬ nTx i (12000 + g) := by unfold nTx tX; omega
      have gl2 : ¬ nTx i 1192 := by unfold nTx; omega
      refine ⟨fun r f hr h0 h1 => (x2.1 r f hr h0 h1).trans ?_, x2.2.1, fun k hk => (x2.2.2 k hk).trans (congrFun (f1 1192 gl2 (by decide)) k)⟩
      unfold lgF
      rw [f1 _ gl g19]
    · rw [em z, ew]
      exact w1 z
    · rw [em z, ← s1 z]
      unfold FpS
      rw [e0, e80]
    · rw [e0]
      exact b1
  by_cases hw : I 1069 (fpO t y) = i
  · obtain ⟨g', c2, q2, K', P', I', a1, a2, a3, a4, a5⟩ := main m K P I hC hT hN hV hL (fun _ _ _ => rfl) ⟨fun _ _ => rfl, rfl, rfl, rfl, rfl⟩ (fun z => ⟨fun e => e ▸ hw, fun _ => rfl⟩) (fun z => ⟨Or.inl, fun h => h.elim id (fun q => absurd (q.1 ▸ hw) q.2)⟩) ⟨Int.le_refl _, by omega⟩
    exact ⟨m, g', 0, 0, c2, q2, K, P, I, K', P', I', a1, a2.mo (fun o h => Or.inr (Or.inl h)), ⟨by omega, a3.1, by omega, a3.2⟩, a4, ⟨hC, hT, Fr.rf, rfl⟩, fun _ => ⟨rfl, rfl, rfl, rfl, rfl⟩, fun h => absurd hw h, a5⟩
  · have N0 : TxN (up2 I 1069 (fpO t y) i) i l m := hN.hi (fun o ho => funext (fun z => up2_o _ _ _ _ (by omega)))
    have u0 : ∀ o, o ≠ 1069 → up2 I 1069 (fpO t y) (i : Int) o = I o := fun o ho => funext (fun z => up2_o _ _ _ _ ho)
    obtain ⟨m', c, q, K1, P1, I1, ⟨v1, v2⟩, f1, r1, d1, sp1⟩ := footprint_ex (J := J) (z := fpO t y) hT N0 fp0 (by rw [u0 _ (by omega)]; exact hb)
    obtain ⟨d2, d3, d4, d5, d6⟩ := d1
    rw [u0 (tX i) (by omega)] at d2 d3 d5 d6
    rw [u0 (tX i + 13) (by omega), u0 (tX i + 33) (by omega), u0 (tX i + 40 + l) (by omega), u0 (tX i + 60 + l) (by omega)] at d4
    rw [u0 (tX i + 80 + m) (by omega)] at d5
    have C1 := hC.tx f1
    have nlg : ∀ o, nLg o → ¬ nTx i o := fun o h1 h2 => nl o h2 h1
    have V1 : LgV K1 P1 g := by
      have k : ∀ o, nLg o → K1 o = K o ∧ P1 o = P o := fun o ho => ⟨(f1 o (nlg o ho)).1, (f1 o (nlg o ho)).2.1⟩
      have g10 := hV.2.2
      obtain ⟨⟨p1, p2, p3, p4⟩, p5, p6⟩ := hV
      have c6 : K1 1196 = K 1196 ∧ K1 1197 = K 1197 := ⟨(f1 1196 (by unfold nTx; omega)).1, (f1 1197 (by unfold nTx; omega)).1⟩
      have kw := k 1192 (Or.inl rfl)
      refine ⟨⟨kw.1.trans p1, ⟨(congrFun kw.2 2).trans p2.1, (k (12000 + g) (Or.inr (by omega))).1.trans p2.2⟩, ⟨(congrFun kw.2 3).trans p3.1, c6.1.trans p3.2⟩, (congrFun kw.2 4).trans p4.1, c6.2.trans p4.2⟩, fun j h1 h2 => (k (12000 + j) (Or.inr (by omega))).1.trans (p5 j h1 h2), p6⟩
    have L1 : LgN I1 g n := by
      unfold LgN at *
      rw [(f1 1192 (by unfold nTx; omega)).2.2, u0 1192 (by decide)]
      exact hL
    have w1 : I1 1069 = up2 I 1069 (fpO t y) (i : Int) 1069 := (f1 1069 (by unfold nTx; omega)).2.2
    obtain ⟨g', c2, q2, K', P', I', a1, a2, a3, a4, a5⟩ := main m' K1 P1 I1 C1 v1 v2 V1 L1 (fun o h1 h2 => ((f1 o h1).2.2).trans (u0 o h2)) ⟨d2, d4.1, d4.2.1, d4.2.2.1, d4.2.2.2⟩ (fun z => by
      rw [w1]
      exact ⟨fun e => e ▸ up2_eq _ _ _ _, fun e => up2_k _ _ _ _ (fun q => e q.symm)⟩) (fun z => by
      constructor
      · rintro ⟨x, h0, h1, h2⟩
        rw [d3] at h1
        by_cases hx : x < I (tX i) 17
        · exact Or.inl ⟨x, h0, hx, by rw [← d5 x h0 hx]; exact h2⟩
        · have : x = I (tX i) 17 := by omega
          subst this
          have e := h2.symm.trans d6
          exact Or.inr ⟨e.symm, e ▸ hw⟩
      · rintro (⟨x, h0, h1, h2⟩ | ⟨h1, h2⟩)
        · exact ⟨x, h0, by rw [d3]; omega, by rw [d5 x h0 h1]; exact h2⟩
        · exact ⟨I (tX i) 17, hN.2.1.1, by rw [d3]; omega, d6.trans h1⟩) ⟨by rw [d3]; omega, by rw [d3]; omega⟩
    refine ⟨m', g', c, q, c2, q2, K1, P1, I1, K', P', I', a1, fun o ho => ?_, ⟨r1.1, a3.1, r1.2, a3.2⟩, a4, ⟨C1, v1, fun o ho => ?_, d2 0 (by decide)⟩, fun h => absurd h hw, fun _ => sp1, a5⟩
    · have h1 := f1 o (fun z => ho (Or.inl z))
      have h2 := a2 o (fun z => ho (Or.inr (Or.inl z)))
      have h3 := u0 o (fun z => ho (Or.inr (Or.inr z)))
      exact ⟨h2.1.trans h1.1, h2.2.1.trans h1.2.1, h2.2.2.trans (h1.2.2.trans h3)⟩
    · have h1 := f1 o (fun z => ho (Or.inl z))
      have h3 := u0 o (fun z => ho (Or.inr (Or.inr z)))
      exact ⟨h1.1, h1.2.1, h1.2.2.trans h3⟩
/-- the loop over the rows of the trial -/
theorem carry_loop {I0 J : IT} {i l k0 n0 : Nat} (hi : i < 60) (h48 : k0 ≤ 48) (ht : ∀ j : Int, 0 ≤ j → j < k0 → (0 ≤ I0 1102 j ∧ I0 1102 j < 6) ∧ -1000 ≤ I0 1103 j ∧ I0 1103 j ≤ 1000) (h7 : I0 1096 7 = k0) (hn0 : n0 + k0 ≤ 16384) :
    ∀ (w j m g : Nat) (K : KT) (P : PT) (I : IT), j + w = k0 → ClW K P → TxV K P i l m → TxN I i l m → LgV K P g → LgN I g (n0 + j) → (∀ o, ¬ nCo i o → I o = I0 o) → I (tX i) 0 = i → I (tX i) 17 + w < 100000 →
    ∃ (m' g' c q : Nat) (K' : KT) (P' : PT) (I' : IT), (ClW K' P' ∧ TxV K' P' i l m' ∧ TxN I' i l m' ∧ LgV K' P' g' ∧ LgN I' g' (n0 + k0)) ∧ Fr (nCo i) K P I K' P' I' ∧ (c + m + g = m' + g' ∧ q + pf m + lgP g = pf m' + lgP g') ∧ CoD I I' i l m m' g g' (n0 + j) ((trL I0 k0).drop j) ∧
      ∀ C N cs ns : Nat, cs + c ≤ C → ns + q ≤ N → VW m_Engine_carryOut false ({ frames := 4, cells := C, slots := N, locals := 320 } : Room) (ex K' P' J I' (.inl none)) K P J I cs ns 16 [(0, vR (some 1064)), (1, vR (some (tX i))), (2, vI ((j : Int) : Int))] [] := by
  intro w
  induction w with
  | zero =>
    intro j m g K P I hj hC hT hN hV hL hI h0 hb
    have ej : j = k0 := by omega
    subst ej
    have ed : (trL I0 j).drop j = [] := List.drop_eq_nil_of_le (by rw [trL_len]; exact Nat.le_refl _)
    refine ⟨m, g, 0, 0, K, P, I, ⟨hC, hT, hN, hV, hL⟩, Fr.rf, ⟨by omega, by omega⟩, by rw [ed]; exact CoD.rf, fun C N cs ns hC' hN' => ?_⟩
    have e7 : I 1096 7 = j := (congrFun (hI 1096 (by unfold nCo nTx nLg tX; omega)) 7).trans h7
    refine VW.iload_n (pc' := 17) d_Engine_carryOut_16 rfl rfl ?_
    refine VW.aload_n (pc' := 18) d_Engine_carryOut_17 rfl rfl ?_
    refine VW.gP (ci := 0) (T := T0) (N := 8) (k := 0) (k' := 0) (pc' := 21) d_Engine_carryOut_18 rfl lk_Engine_47 in0 rfl rfl rfl rfl (by first | exact hC.k 9 rfl | exact hC.k 13 rfl | exact hC.k 17 rfl | exact hC.k 18 rfl | exact hC.k 10 rfl | exact hC.k 23 rfl) (by first | exact hC.p 15 rfl | exact hC.p 27 rfl | exact hC.p 28 rfl | exact hC.p 19 rfl | exact hC.p 18 rfl | exact e7 | rfl) ?_
    refine VW.gI (ci := 9) (T := T9) (N := 8) (k := 7) (k' := 7) (pc' := 24) d_Engine_carryOut_21 rfl lk_Engine_131 in9 rfl rfl rfl rfl (by first | exact hC.k 9 rfl | exact hC.k 13 rfl | exact hC.k 17 rfl | exact hC.k 18 rfl | exact hC.k 10 rfl | exact hC.k 23 rfl) (by first | exact hC.p 15 rfl | exact hC.p 27 rfl | exact hC.p 28 rfl | exact hC.p 19 rfl | exact hC.p 18 rfl | exact e7 | rfl) ?_
    refine VW.icmp_ge (tgt := 126) (pc' := 27) d_Engine_carryOut_24 rfl rfl (fun c24 => ?_) (fun c24 => ?_)
    case refine_2 => exact absurd c24 (by omega)
    exact VW.vret d_Engine_carryOut_126 rfl (by omega) (by omega) ex_rf
  | succ w ih =>
    intro j m g K P I hj hC hT hN hV hL hI h0 hb
    have e7 : I 1096 7 = k0 := (congrFun (hI 1096 (by unfold nCo nTx nLg tX; omega)) 7).trans h7
    have g02 : I 1102 = I0 1102 := hI 1102 (by unfold nCo nTx nLg tX; omega)
    have g03 : I 1103 = I0 1103 := hI 1103 (by unfold nCo nTx nLg tX; omega)
    obtain ⟨t6, y6⟩ := ht (j : Int) (by omega) (by omega)
    have x0 : 2000 ≤ tX i := by unfold tX; omega
    have hxk := hT.k
    have fr := fpO_rg (y := I0 1103 (j : Int)) t6
    have fp0 : 0 ≤ fpO (I0 1102 (j : Int)) (I0 1103 (j : Int)) ∧ fpO (I0 1102 (j : Int)) (I0 1103 (j : Int)) < 12006 := by
      rcases fr with h | h
      · unfold fpO at h
        rw [if_pos y6] at h
        omega
      · exact h
    obtain ⟨m1, g1, c1, q1, c2, q2, K1, P1, I1, K2, P2, I2, ⟨s1, s2, s3, s4, s5⟩, f2, ⟨r1, r2, r3, r4⟩, d2, ⟨C1, T1, f1, z1⟩, w1, w2, spw⟩ := carry_one (J := J) hC hT hN hi hV hL (by omega) t6 y6 (by omega)
    have i20 : I2 (tX i) 0 = i := (d2.2.1.1 0 (by decide)).trans h0
    have b2 : I2 (tX i) 17 + w < 100000 := by
      have := d2.2.2.2.2.2
      simp at this
      omega
    obtain ⟨m3, g3, c, q, K', P', I', a1, a2, a3, a4, a5⟩ := ih (j + 1) m1 g1 K2 P2 I2 (by omega) s1 s2 s3 s4 s5 (fun o ho => ((f2 o ho).2.2).trans (hI o ho)) i20 b2
    have hdr : (trL I0 k0).drop j = (I0 1102 (j : Int), I0 1103 (j : Int)) :: (trL I0 k0).drop (j + 1) := by
      have hlt : j < (trL I0 k0).length := by rw [trL_len]; omega
      rw [List.drop_eq_getElem_cons hlt]
      congr 1
      have := trL_get (I := I0) (n := k0) (j := j) (by omega)
      rw [List.getElem?_eq_getElem hlt] at this
      exact Option.some.inj this
    refine ⟨m3, g3, c1 + c2 + c, q1 + q2 + q, K', P', I', a1, f2.tr a2, ⟨by omega, by omega⟩, by rw [hdr]; exact d2.tr a4, fun C N cs ns hC' hN' => ?_⟩
    have n9 := a5 C N (cs + c1 + c2) (ns + q1 + q2) (by omega) (by omega)
    rw [show ((j + 1 : Nat) : Int) = (j : Int) + 1 by omega] at n9
    clear ih a5 a4 a2 a1 d2
    have hrw := T1.rows
    have i10 : I1 (tX i) 0 = i := z1.trans h0
    have j02 : I1 1102 (j : Int) = I0 1102 (j : Int) := (congrFun ((f1 1102 (by unfold nCo nTx nLg tX; omega)).2.2) _).trans (congrFun g02 _)
    have j03 : I1 1103 (j : Int) = I0 1103 (j : Int) := (congrFun ((f1 1103 (by unfold nCo nTx nLg tX; omega)).2.2) _).trans (congrFun g03 _)
    have k02 : I 1102 (j : Int) = I0 1102 (j : Int) := congrFun g02 _
    have k03 : I 1103 (j : Int) = I0 1103 (j : Int) := congrFun g03 _
    have hpr := T1.pr
    have k1x := T1.k
    by_cases hw : I 1069 (fpO (I0 1102 (j : Int)) (I0 1103 (j : Int))) = i
    · obtain ⟨z2, z3, z4, z5, z6⟩ := w1 hw
      subst z2; subst z3; subst z4; subst z5; subst z6
      refine VW.iload_n (pc' := 17) d_Engine_carryOut_16 rfl rfl ?_
      refine VW.aload_n (pc' := 18) d_Engine_carryOut_17 rfl rfl ?_
      refine VW.gP (ci := 0) (T := T0) (N := 8) (k := 0) (k' := 0) (pc' := 21) d_Engine_carryOut_18 rfl lk_Engine_47 in0 rfl rfl rfl rfl (by first | exact hC.k 9 rfl | exact hC.k 13 rfl | exact hC.k 17 rfl | exact hC.k 18 rfl | exact hC.k 10 rfl | exact hC.k 23 rfl | exact hxk) (by first | exact hC.p 15 rfl | exact hC.p 27 rfl | exact hC.p 28 rfl | exact hC.p 19 rfl | exact hC.p 18 rfl | exact e7 | exact k02 | exact k03 | exact h0 | exact hw | exact hpr | rfl) ?_
      refine VW.gI (ci := 9) (T := T9) (N := 8) (k := 7) (k' := 7) (pc' := 24) d_Engine_carryOut_21 rfl lk_Engine_131 in9 rfl rfl rfl rfl (by first | exact hC.k 9 rfl | exact hC.k 13 rfl | exact hC.k 17 rfl | exact hC.k 18 rfl | exact hC.k 10 rfl | exact hC.k 23 rfl | exact hxk) (by first | exact hC.p 15 rfl | exact hC.p 27 rfl | exact hC.p 28 rfl | exact hC.p 19 rfl | exact hC.p 18 rfl | exact e7 | exact k02 | exact k03 | exact h0 | exact hw | exact hpr | rfl) ?_
      refine VW.icmp_ge (tgt := 126) (pc' := 27) d_Engine_carryOut_24 rfl rfl (fun c24 => ?_) (fun c24 => ?_)
      case refine_1 => exact absurd c24 (by omega)
      refine VW.aload_n (pc' := 28) d_Engine_carryOut_27 rfl rfl ?_
      refine VW.gP (ci := 0) (T := T0) (N := 8) (k := 0) (k' := 0) (pc' := 31) d_Engine_carryOut_28 rfl lk_Engine_47 in0 rfl rfl rfl rfl (by first | exact hC.k 9 rfl | exact hC.k 13 rfl | exact hC.k 17 rfl | exact hC.k 18 rfl | exact hC.k 10 rfl | exact hC.k 23 rfl | exact hxk) (by first | exact hC.p 15 rfl | exact hC.p 27 rfl | exact hC.p 28 rfl | exact hC.p 19 rfl | exact hC.p 18 rfl | exact e7 | exact k02 | exact k03 | exact h0 | exact hw | exact hpr | rfl) ?_
      refine VW.gP (ci := 9) (T := T9) (N := 8) (k := 5) (k' := 5) (pc' := 34) d_Engine_carryOut_31 rfl lk_Engine_134 in9 rfl rfl rfl rfl (by first | exact hC.k 9 rfl | exact hC.k 13 rfl | exact hC.k 17 rfl | exact hC.k 18 rfl | exact hC.k 10 rfl | exact hC.k 23 rfl | exact hxk) (by first | exact hC.p 15 rfl | exact hC.p 27 rfl | exact hC.p 28 rfl | exact hC.p 19 rfl | exact hC.p 18 rfl | exact e7 | exact k02 | exact k03 | exact h0 | exact hw | exact hpr | rfl) ?_
      refine VW.iload_n (pc' := 35) d_Engine_carryOut_34 rfl rfl ?_
      refine VW.ild (pc' := 36) d_Engine_carryOut_35 rfl (by first | exact hC.k 9 rfl | exact hC.k 13 rfl | exact hC.k 17 rfl | exact hC.k 18 rfl | exact hC.k 10 rfl | exact hC.k 23 rfl | exact hxk) (by omega) (by omega) (by first | exact hC.p 15 rfl | exact hC.p 27 rfl | exact hC.p 28 rfl | exact hC.p 19 rfl | exact hC.p 18 rfl | exact e7 | exact k02 | exact k03 | exact h0 | exact hw | exact hpr | rfl) ?_
      refine VW.aload_n (pc' := 37) d_Engine_carryOut_36 rfl rfl ?_
      refine VW.gP (ci := 0) (T := T0) (N := 8) (k := 0) (k' := 0) (pc' := 40) d_Engine_carryOut_37 rfl lk_Engine_47 in0 rfl rfl rfl rfl (by first | exact hC.k 9 rfl | exact hC.k 13 rfl | exact hC.k 17 rfl | exact hC.k 18 rfl | exact hC.k 10 rfl | exact hC.k 23 rfl | exact hxk) (by first | exact hC.p 15 rfl | exact hC.p 27 rfl | exact hC.p 28 rfl | exact hC.p 19 rfl | exact hC.p 18 rfl | exact e7 | exact k02 | exact k03 | exact h0 | exact hw | exact hpr | rfl) ?_
      refine VW.gP (ci := 9) (T := T9) (N := 8) (k := 6) (k' := 6) (pc' := 43) d_Engine_carryOut_40 rfl lk_Engine_137 in9 rfl rfl rfl rfl (by first | exact hC.k 9 rfl | exact hC.k 13 rfl | exact hC.k 17 rfl | exact hC.k 18 rfl | exact hC.k 10 rfl | exact hC.k 23 rfl | exact hxk) (by first | exact hC.p 15 rfl | exact hC.p 27 rfl | exact hC.p 28 rfl | exact hC.p 19 rfl | exact hC.p 18 rfl | exact e7 | exact k02 | exact k03 | exact h0 | exact hw | exact hpr | rfl) ?_
      refine VW.iload_n (pc' := 44) d_Engine_carryOut_43 rfl rfl ?_
      refine VW.ild (pc' := 45) d_Engine_carryOut_44 rfl (by first | exact hC.k 9 rfl | exact hC.k 13 rfl | exact hC.k 17 rfl | exact hC.k 18 rfl | exact hC.k 10 rfl | exact hC.k 23 rfl | exact hxk) (by omega) (by omega) (by first | exact hC.p 15 rfl | exact hC.p 27 rfl | exact hC.p 28 rfl | exact hC.p 19 rfl | exact hC.p 18 rfl | exact e7 | exact k02 | exact k03 | exact h0 | exact hw | exact hpr | rfl) ?_
      refine VW.cS (pc' := 48) d_Engine_carryOut_45 rfl ms_Engine_footprint lk_Engine_140 rfl rfl rfl (by show cs + 0 ≤ C; omega) (by show ns + 0 ≤ N; omega) (sp_Engine_footprint t6) rfl rfl ?_
      refine VW.istore_n (pc' := 49) d_Engine_carryOut_48 rfl rfl ?_
      refine VW.iload_n (pc' := 50) d_Engine_carryOut_49 rfl rfl ?_
      refine VW.iconst (pc' := 51) d_Engine_carryOut_50 rfl (by decide) ?_
      refine VW.icmp_eq (tgt := 82) (pc' := 54) d_Engine_carryOut_51 rfl rfl (fun c51 => ?_) (fun c51 => ?_)
      case refine_1 => exact absurd c51 (by omega)
      refine VW.aload_n (pc' := 55) d_Engine_carryOut_54 rfl rfl ?_
      refine VW.gP (ci := 0) (T := T0) (N := 8) (k := 4) (k' := 4) (pc' := 58) d_Engine_carryOut_55 rfl lk_Engine_32 in0 rfl rfl rfl rfl (by first | exact hC.k 9 rfl | exact hC.k 13 rfl | exact hC.k 17 rfl | exact hC.k 18 rfl | exact hC.k 10 rfl | exact hC.k 23 rfl | exact hxk) (by first | exact hC.p 15 rfl | exact hC.p 27 rfl | exact hC.p 28 rfl | exact hC.p 19 rfl | exact hC.p 18 rfl | exact e7 | exact k02 | exact k03 | exact h0 | exact hw | exact hpr | rfl) ?_
      refine VW.iload_n (pc' := 59) d_Engine_carryOut_58 rfl rfl ?_
      refine VW.ild (pc' := 60) d_Engine_carryOut_59 rfl (by first | exact hC.k 9 rfl | exact hC.k 13 rfl | exact hC.k 17 rfl | exact hC.k 18 rfl | exact hC.k 10 rfl | exact hC.k 23 rfl | exact hxk) (by omega) (by omega) (by first | exact hC.p 15 rfl | exact hC.p 27 rfl | exact hC.p 28 rfl | exact hC.p 19 rfl | exact hC.p 18 rfl | exact e7 | exact k02 | exact k03 | exact h0 | exact hw | exact hpr | rfl) ?_
      refine VW.aload_n (pc' := 61) d_Engine_carryOut_60 rfl rfl ?_
      refine VW.gI (ci := 8) (T := T8) (N := 19) (k := 0) (k' := 0) (pc' := 64) d_Engine_carryOut_61 rfl lk_Engine_92 in8 rfl rfl rfl rfl (by first | exact hC.k 9 rfl | exact hC.k 13 rfl | exact hC.k 17 rfl | exact hC.k 18 rfl | exact hC.k 10 rfl | exact hC.k 23 rfl | exact hxk) (by first | exact hC.p 15 rfl | exact hC.p 27 rfl | exact hC.p 28 rfl | exact hC.p 19 rfl | exact hC.p 18 rfl | exact e7 | exact k02 | exact k03 | exact h0 | exact hw | exact hpr | rfl) ?_
      refine VW.icmp_eq (tgt := 82) (pc' := 67) d_Engine_carryOut_64 rfl rfl (fun c64 => ?_) (fun c64 => ?_)
      case refine_2 => exact absurd c64 (by omega)
      refine VW.iload_n (pc' := 83) d_Engine_carryOut_82 rfl rfl ?_
      refine VW.iconst (pc' := 84) d_Engine_carryOut_83 rfl (by decide) ?_
      refine VW.icmp_eq (tgt := 120) (pc' := 87) d_Engine_carryOut_84 rfl rfl (fun c84 => ?_) (fun c84 => ?_)
      case refine_1 => exact absurd c84 (by omega)
      refine VW.aload_n (pc' := 88) d_Engine_carryOut_87 rfl rfl ?_
      refine VW.gP (ci := 0) (T := T0) (N := 8) (k := 3) (k' := 3) (pc' := 91) d_Engine_carryOut_88 rfl lk_Engine_28 in0 rfl rfl rfl rfl (by first | exact hC.k 9 rfl | exact hC.k 13 rfl | exact hC.k 17 rfl | exact hC.k 18 rfl | exact hC.k 10 rfl | exact hC.k 23 rfl | exact hxk) (by first | exact hC.p 15 rfl | exact hC.p 27 rfl | exact hC.p 28 rfl | exact hC.p 19 rfl | exact hC.p 18 rfl | exact e7 | exact k02 | exact k03 | exact h0 | exact hw | exact hpr | rfl) ?_
      refine VW.aload_n (pc' := 92) d_Engine_carryOut_91 rfl rfl ?_
      refine VW.gI (ci := 8) (T := T8) (N := 19) (k := 0) (k' := 0) (pc' := 95) d_Engine_carryOut_92 rfl lk_Engine_92 in8 rfl rfl rfl rfl (by first | exact hC.k 9 rfl | exact hC.k 13 rfl | exact hC.k 17 rfl | exact hC.k 18 rfl | exact hC.k 10 rfl | exact hC.k 23 rfl | exact hxk) (by first | exact hC.p 15 rfl | exact hC.p 27 rfl | exact hC.p 28 rfl | exact hC.p 19 rfl | exact hC.p 18 rfl | exact e7 | exact k02 | exact k03 | exact h0 | exact hw | exact hpr | rfl) ?_
      refine VW.aload_n (pc' := 96) d_Engine_carryOut_95 rfl rfl ?_
      refine VW.gP (ci := 0) (T := T0) (N := 8) (k := 0) (k' := 0) (pc' := 99) d_Engine_carryOut_96 rfl lk_Engine_47 in0 rfl rfl rfl rfl (by first | exact hC.k 9 rfl | exact hC.k 13 rfl | exact hC.k 17 rfl | exact hC.k 18 rfl | exact hC.k 10 rfl | exact hC.k 23 rfl | exact hxk) (by first | exact hC.p 15 rfl | exact hC.p 27 rfl | exact hC.p 28 rfl | exact hC.p 19 rfl | exact hC.p 18 rfl | exact e7 | exact k02 | exact k03 | exact h0 | exact hw | exact hpr | rfl) ?_
      refine VW.gP (ci := 9) (T := T9) (N := 8) (k := 5) (k' := 5) (pc' := 102) d_Engine_carryOut_99 rfl lk_Engine_134 in9 rfl rfl rfl rfl (by first | exact hC.k 9 rfl | exact hC.k 13 rfl | exact hC.k 17 rfl | exact hC.k 18 rfl | exact hC.k 10 rfl | exact hC.k 23 rfl | exact hxk) (by first | exact hC.p 15 rfl | exact hC.p 27 rfl | exact hC.p 28 rfl | exact hC.p 19 rfl | exact hC.p 18 rfl | exact e7 | exact k02 | exact k03 | exact h0 | exact hw | exact hpr | rfl) ?_
      refine VW.iload_n (pc' := 103) d_Engine_carryOut_102 rfl rfl ?_
      refine VW.ild (pc' := 104) d_Engine_carryOut_103 rfl (by first | exact hC.k 9 rfl | exact hC.k 13 rfl | exact hC.k 17 rfl | exact hC.k 18 rfl | exact hC.k 10 rfl | exact hC.k 23 rfl | exact hxk) (by omega) (by omega) (by first | exact hC.p 15 rfl | exact hC.p 27 rfl | exact hC.p 28 rfl | exact hC.p 19 rfl | exact hC.p 18 rfl | exact e7 | exact k02 | exact k03 | exact h0 | exact hw | exact hpr | rfl) ?_
      refine VW.aload_n (pc' := 105) d_Engine_carryOut_104 rfl rfl ?_
      refine VW.gP (ci := 0) (T := T0) (N := 8) (k := 0) (k' := 0) (pc' := 108) d_Engine_carryOut_105 rfl lk_Engine_47 in0 rfl rfl rfl rfl (by first | exact hC.k 9 rfl | exact hC.k 13 rfl | exact hC.k 17 rfl | exact hC.k 18 rfl | exact hC.k 10 rfl | exact hC.k 23 rfl | exact hxk) (by first | exact hC.p 15 rfl | exact hC.p 27 rfl | exact hC.p 28 rfl | exact hC.p 19 rfl | exact hC.p 18 rfl | exact e7 | exact k02 | exact k03 | exact h0 | exact hw | exact hpr | rfl) ?_
      refine VW.gP (ci := 9) (T := T9) (N := 8) (k := 6) (k' := 6) (pc' := 111) d_Engine_carryOut_108 rfl lk_Engine_137 in9 rfl rfl rfl rfl (by first | exact hC.k 9 rfl | exact hC.k 13 rfl | exact hC.k 17 rfl | exact hC.k 18 rfl | exact hC.k 10 rfl | exact hC.k 23 rfl | exact hxk) (by first | exact hC.p 15 rfl | exact hC.p 27 rfl | exact hC.p 28 rfl | exact hC.p 19 rfl | exact hC.p 18 rfl | exact e7 | exact k02 | exact k03 | exact h0 | exact hw | exact hpr | rfl) ?_
      refine VW.iload_n (pc' := 112) d_Engine_carryOut_111 rfl rfl ?_
      refine VW.ild (pc' := 113) d_Engine_carryOut_112 rfl (by first | exact hC.k 9 rfl | exact hC.k 13 rfl | exact hC.k 17 rfl | exact hC.k 18 rfl | exact hC.k 10 rfl | exact hC.k 23 rfl | exact hxk) (by omega) (by omega) (by first | exact hC.p 15 rfl | exact hC.p 27 rfl | exact hC.p 28 rfl | exact hC.p 19 rfl | exact hC.p 18 rfl | exact e7 | exact k02 | exact k03 | exact h0 | exact hw | exact hpr | rfl) ?_
      refine VW.aload_n (pc' := 114) d_Engine_carryOut_113 rfl rfl ?_
      refine VW.gP (ci := 8) (T := T8) (N := 19) (k := 3) (k' := 3) (pc' := 117) d_Engine_carryOut_114 rfl lk_Engine_81 in8 rfl rfl rfl rfl (by first | exact hC.k 9 rfl | exact hC.k 13 rfl | exact hC.k 17 rfl | exact hC.k 18 rfl | exact hC.k 10 rfl | exact hC.k 23 rfl | exact hxk) (by first | exact hC.p 15 rfl | exact hC.p 27 rfl | exact hC.p 28 rfl | exact hC.p 19 rfl | exact hC.p 18 rfl | exact e7 | exact k02 | exact k03 | exact h0 | exact hw | exact hpr | rfl) ?_
      refine VW.cV (ci := 2) (T := T2) (N := 5) (pc' := 120) d_Engine_carryOut_117 rfl mv_Log_addWrite lk_Engine_161 rfl (by first | exact hC.k 9 rfl | exact hC.k 13 rfl | exact hC.k 17 rfl | exact hC.k 18 rfl | exact hC.k 10 rfl | exact hC.k 23 rfl | exact hxk) rfl rfl rfl (by show cs + 0 + c2 ≤ C; omega) (by show ns + 0 + q2 ≤ N; omega) (spw) rfl rfl ?_
      refine VW.iinc (pc' := 123) d_Engine_carryOut_120 rfl rfl rfl (by omega) ?_
      refine VW.goto (pc' := 16) d_Engine_carryOut_123 rfl ?_
      refine VW.pick [0, 1, 2] ?_
      exact n9
    · have spf := w2 hw
      have u00 : up2 I 1069 (fpO (I0 1102 (j : Int)) (I0 1103 (j : Int))) (i : Int) (tX i) 0 = i := (up2_o _ _ _ _ (by omega)).trans h0
      clear w1 w2
      refine VW.iload_n (pc' := 17) d_Engine_carryOut_16 rfl rfl ?_
      refine VW.aload_n (pc' := 18) d_Engine_carryOut_17 rfl rfl ?_
      refine VW.gP (ci := 0) (T := T0) (N := 8) (k := 0) (k' := 0) (pc' := 21) d_Engine_carryOut_18 rfl lk_Engine_47 in0 rfl rfl rfl rfl (by first | exact hC.k 9 rfl | exact hC.k 13 rfl | exact hC.k 17 rfl | exact hC.k 18 rfl | exact hC.k 10 rfl | exact hC.k 23 rfl | exact hxk | exact k1x | exact C1.k 9 rfl | exact C1.k 13 rfl | exact C1.k 17 rfl | exact C1.k 18 rfl | exact C1.k 10 rfl | exact C1.k 23 rfl) (by first | exact hC.p 15 rfl | exact hC.p 27 rfl | exact hC.p 28 rfl | exact hC.p 19 rfl | exact hC.p 18 rfl | exact e7 | exact k02 | exact k03 | exact h0 | exact u00 | exact j02 | exact j03 | exact i10 | exact hpr | exact C1.p 15 rfl | exact C1.p 27 rfl | exact C1.p 28 rfl | exact C1.p 19 rfl | exact C1.p 18 rfl | rfl) ?_
      refine VW.gI (ci := 9) (T := T9) (N := 8) (k := 7) (k' := 7) (pc' := 24) d_Engine_carryOut_21 rfl lk_Engine_131 in9 rfl rfl rfl rfl (by first | exact hC.k 9 rfl | exact hC.k 13 rfl | exact hC.k 17 rfl | exact hC.k 18 rfl | exact hC.k 10 rfl | exact hC.k 23 rfl | exact hxk | exact k1x | exact C1.k 9 rfl | exact C1.k 13 rfl | exact C1.k 17 rfl | exact C1.k 18 rfl | exact C1.k 10 rfl | exact C1.k 23 rfl) (by first | exact hC.p 15 rfl | exact hC.p 27 rfl | exact hC.p 28 rfl | exact hC.p 19 rfl | exact hC.p 18 rfl | exact e7 | exact k02 | exact k03 | exact h0 | exact u00 | exact j02 | exact j03 | exact i10 | exact hpr | exact C1.p 15 rfl | exact C1.p 27 rfl | exact C1.p 28 rfl | exact C1.p 19 rfl | exact C1.p 18 rfl | rfl) ?_
      refine VW.icmp_ge (tgt := 126) (pc' := 27) d_Engine_carryOut_24 rfl rfl (fun c24 => ?_) (fun c24 => ?_)
      case refine_1 => exact absurd c24 (by omega)
      refine VW.aload_n (pc' := 28) d_Engine_carryOut_27 rfl rfl ?_
      refine VW.gP (ci := 0) (T := T0) (N := 8) (k := 0) (k' := 0) (pc' := 31) d_Engine_carryOut_28 rfl lk_Engine_47 in0 rfl rfl rfl rfl (by first | exact hC.k 9 rfl | exact hC.k 13 rfl | exact hC.k 17 rfl | exact hC.k 18 rfl | exact hC.k 10 rfl | exact hC.k 23 rfl | exact hxk | exact k1x | exact C1.k 9 rfl | exact C1.k 13 rfl | exact C1.k 17 rfl | exact C1.k 18 rfl | exact C1.k 10 rfl | exact C1.k 23 rfl) (by first | exact hC.p 15 rfl | exact hC.p 27 rfl | exact hC.p 28 rfl | exact hC.p 19 rfl | exact hC.p 18 rfl | exact e7 | exact k02 | exact k03 | exact h0 | exact u00 | exact j02 | exact j03 | exact i10 | exact hpr | exact C1.p 15 rfl | exact C1.p 27 rfl | exact C1.p 28 rfl | exact C1.p 19 rfl | exact C1.p 18 rfl | rfl) ?_
      refine VW.gP (ci := 9) (T := T9) (N := 8) (k := 5) (k' := 5) (pc' := 34) d_Engine_carryOut_31 rfl lk_Engine_134 in9 rfl rfl rfl rfl (by first | exact hC.k 9 rfl | exact hC.k 13 rfl | exact hC.k 17 rfl | exact hC.k 18 rfl | exact hC.k 10 rfl | exact hC.k 23 rfl | exact hxk | exact k1x | exact C1.k 9 rfl | exact C1.k 13 rfl | exact C1.k 17 rfl | exact C1.k 18 rfl | exact C1.k 10 rfl | exact C1.k 23 rfl) (by first | exact hC.p 15 rfl | exact hC.p 27 rfl | exact hC.p 28 rfl | exact hC.p 19 rfl | exact hC.p 18 rfl | exact e7 | exact k02 | exact k03 | exact h0 | exact u00 | exact j02 | exact j03 | exact i10 | exact hpr | exact C1.p 15 rfl | exact C1.p 27 rfl | exact C1.p 28 rfl | exact C1.p 19 rfl | exact C1.p 18 rfl | rfl) ?_
      refine VW.iload_n (pc' := 35) d_Engine_carryOut_34 rfl rfl ?_
      refine VW.ild (pc' := 36) d_Engine_carryOut_35 rfl (by first | exact hC.k 9 rfl | exact hC.k 13 rfl | exact hC.k 17 rfl | exact hC.k 18 rfl | exact hC.k 10 rfl | exact hC.k 23 rfl | exact hxk | exact k1x | exact C1.k 9 rfl | exact C1.k 13 rfl | exact C1.k 17 rfl | exact C1.k 18 rfl | exact C1.k 10 rfl | exact C1.k 23 rfl) (by omega) (by omega) (by first | exact hC.p 15 rfl | exact hC.p 27 rfl | exact hC.p 28 rfl | exact hC.p 19 rfl | exact hC.p 18 rfl | exact e7 | exact k02 | exact k03 | exact h0 | exact u00 | exact j02 | exact j03 | exact i10 | exact hpr | exact C1.p 15 rfl | exact C1.p 27 rfl | exact C1.p 28 rfl | exact C1.p 19 rfl | exact C1.p 18 rfl | rfl) ?_
      refine VW.aload_n (pc' := 37) d_Engine_carryOut_36 rfl rfl ?_
      refine VW.gP (ci := 0) (T := T0) (N := 8) (k := 0) (k' := 0) (pc' := 40) d_Engine_carryOut_37 rfl lk_Engine_47 in0 rfl rfl rfl rfl (by first | exact hC.k 9 rfl | exact hC.k 13 rfl | exact hC.k 17 rfl | exact hC.k 18 rfl | exact hC.k 10 rfl | exact hC.k 23 rfl | exact hxk | exact k1x | exact C1.k 9 rfl | exact C1.k 13 rfl | exact C1.k 17 rfl | exact C1.k 18 rfl | exact C1.k 10 rfl | exact C1.k 23 rfl) (by first | exact hC.p 15 rfl | exact hC.p 27 rfl | exact hC.p 28 rfl | exact hC.p 19 rfl | exact hC.p 18 rfl | exact e7 | exact k02 | exact k03 | exact h0 | exact u00 | exact j02 | exact j03 | exact i10 | exact hpr | exact C1.p 15 rfl | exact C1.p 27 rfl | exact C1.p 28 rfl | exact C1.p 19 rfl | exact C1.p 18 rfl | rfl) ?_
      refine VW.gP (ci := 9) (T := T9) (N := 8) (k := 6) (k' := 6) (pc' := 43) d_Engine_carryOut_40 rfl lk_Engine_137 in9 rfl rfl rfl rfl (by first | exact hC.k 9 rfl | exact hC.k 13 rfl | exact hC.k 17 rfl | exact hC.k 18 rfl | exact hC.k 10 rfl | exact hC.k 23 rfl | exact hxk | exact k1x | exact C1.k 9 rfl | exact C1.k 13 rfl | exact C1.k 17 rfl | exact C1.k 18 rfl | exact C1.k 10 rfl | exact C1.k 23 rfl) (by first | exact hC.p 15 rfl | exact hC.p 27 rfl | exact hC.p 28 rfl | exact hC.p 19 rfl | exact hC.p 18 rfl | exact e7 | exact k02 | exact k03 | exact h0 | exact u00 | exact j02 | exact j03 | exact i10 | exact hpr | exact C1.p 15 rfl | exact C1.p 27 rfl | exact C1.p 28 rfl | exact C1.p 19 rfl | exact C1.p 18 rfl | rfl) ?_
      refine VW.iload_n (pc' := 44) d_Engine_carryOut_43 rfl rfl ?_
      refine VW.ild (pc' := 45) d_Engine_carryOut_44 rfl (by first | exact hC.k 9 rfl | exact hC.k 13 rfl | exact hC.k 17 rfl | exact hC.k 18 rfl | exact hC.k 10 rfl | exact hC.k 23 rfl | exact hxk | exact k1x | exact C1.k 9 rfl | exact C1.k 13 rfl | exact C1.k 17 rfl | exact C1.k 18 rfl | exact C1.k 10 rfl | exact C1.k 23 rfl) (by omega) (by omega) (by first | exact hC.p 15 rfl | exact hC.p 27 rfl | exact hC.p 28 rfl | exact hC.p 19 rfl | exact hC.p 18 rfl | exact e7 | exact k02 | exact k03 | exact h0 | exact u00 | exact j02 | exact j03 | exact i10 | exact hpr | exact C1.p 15 rfl | exact C1.p 27 rfl | exact C1.p 28 rfl | exact C1.p 19 rfl | exact C1.p 18 rfl | rfl) ?_
      refine VW.cS (pc' := 48) d_Engine_carryOut_45 rfl ms_Engine_footprint lk_Engine_140 rfl rfl rfl (by show cs + 0 ≤ C; omega) (by show ns + 0 ≤ N; omega) (sp_Engine_footprint t6) rfl rfl ?_
      refine VW.istore_n (pc' := 49) d_Engine_carryOut_48 rfl rfl ?_
      refine VW.iload_n (pc' := 50) d_Engine_carryOut_49 rfl rfl ?_
      refine VW.iconst (pc' := 51) d_Engine_carryOut_50 rfl (by decide) ?_
      refine VW.icmp_eq (tgt := 82) (pc' := 54) d_Engine_carryOut_51 rfl rfl (fun c51 => ?_) (fun c51 => ?_)
      case refine_1 => exact absurd c51 (by omega)
      refine VW.aload_n (pc' := 55) d_Engine_carryOut_54 rfl rfl ?_
      refine VW.gP (ci := 0) (T := T0) (N := 8) (k := 4) (k' := 4) (pc' := 58) d_Engine_carryOut_55 rfl lk_Engine_32 in0 rfl rfl rfl rfl (by first | exact hC.k 9 rfl | exact hC.k 13 rfl | exact hC.k 17 rfl | exact hC.k 18 rfl | exact hC.k 10 rfl | exact hC.k 23 rfl | exact hxk | exact k1x | exact C1.k 9 rfl | exact C1.k 13 rfl | exact C1.k 17 rfl | exact C1.k 18 rfl | exact C1.k 10 rfl | exact C1.k 23 rfl) (by first | exact hC.p 15 rfl | exact hC.p 27 rfl | exact hC.p 28 rfl | exact hC.p 19 rfl | exact hC.p 18 rfl | exact e7 | exact k02 | exact k03 | exact h0 | exact u00 | exact j02 | exact j03 | exact i10 | exact hpr | exact C1.p 15 rfl | exact C1.p 27 rfl | exact C1.p 28 rfl | exact C1.p 19 rfl | exact C1.p 18 rfl | rfl) ?_
      refine VW.iload_n (pc' := 59) d_Engine_carryOut_58 rfl rfl ?_
      refine VW.ild (pc' := 60) d_Engine_carryOut_59 rfl (by first | exact hC.k 9 rfl | exact hC.k 13 rfl | exact hC.k 17 rfl | exact hC.k 18 rfl | exact hC.k 10 rfl | exact hC.k 23 rfl | exact hxk | exact k1x | exact C1.k 9 rfl | exact C1.k 13 rfl | exact C1.k 17 rfl | exact C1.k 18 rfl | exact C1.k 10 rfl | exact C1.k 23 rfl) (by omega) (by omega) (by first | exact hC.p 15 rfl | exact hC.p 27 rfl | exact hC.p 28 rfl | exact hC.p 19 rfl | exact hC.p 18 rfl | exact e7 | exact k02 | exact k03 | exact h0 | exact u00 | exact j02 | exact j03 | exact i10 | exact hpr | exact C1.p 15 rfl | exact C1.p 27 rfl | exact C1.p 28 rfl | exact C1.p 19 rfl | exact C1.p 18 rfl | rfl) ?_
      refine VW.aload_n (pc' := 61) d_Engine_carryOut_60 rfl rfl ?_
      refine VW.gI (ci := 8) (T := T8) (N := 19) (k := 0) (k' := 0) (pc' := 64) d_Engine_carryOut_61 rfl lk_Engine_92 in8 rfl rfl rfl rfl (by first | exact hC.k 9 rfl | exact hC.k 13 rfl | exact hC.k 17 rfl | exact hC.k 18 rfl | exact hC.k 10 rfl | exact hC.k 23 rfl | exact hxk | exact k1x | exact C1.k 9 rfl | exact C1.k 13 rfl | exact C1.k 17 rfl | exact C1.k 18 rfl | exact C1.k 10 rfl | exact C1.k 23 rfl) (by first | exact hC.p 15 rfl | exact hC.p 27 rfl | exact hC.p 28 rfl | exact hC.p 19 rfl | exact hC.p 18 rfl | exact e7 | exact k02 | exact k03 | exact h0 | exact u00 | exact j02 | exact j03 | exact i10 | exact hpr | exact C1.p 15 rfl | exact C1.p 27 rfl | exact C1.p 28 rfl | exact C1.p 19 rfl | exact C1.p 18 rfl | rfl) ?_
      refine VW.icmp_eq (tgt := 82) (pc' := 67) d_Engine_carryOut_64 rfl rfl (fun c64 => ?_) (fun c64 => ?_)
      case refine_1 => exact absurd c64 (by omega)
      refine VW.aload_n (pc' := 68) d_Engine_carryOut_67 rfl rfl ?_
      refine VW.gP (ci := 0) (T := T0) (N := 8) (k := 4) (k' := 4) (pc' := 71) d_Engine_carryOut_68 rfl lk_Engine_32 in0 rfl rfl rfl rfl (by first | exact hC.k 9 rfl | exact hC.k 13 rfl | exact hC.k 17 rfl | exact hC.k 18 rfl | exact hC.k 10 rfl | exact hC.k 23 rfl | exact hxk | exact k1x | exact C1.k 9 rfl | exact C1.k 13 rfl | exact C1.k 17 rfl | exact C1.k 18 rfl | exact C1.k 10 rfl | exact C1.k 23 rfl) (by first | exact hC.p 15 rfl | exact hC.p 27 rfl | exact hC.p 28 rfl | exact hC.p 19 rfl | exact hC.p 18 rfl | exact e7 | exact k02 | exact k03 | exact h0 | exact u00 | exact j02 | exact j03 | exact i10 | exact hpr | exact C1.p 15 rfl | exact C1.p 27 rfl | exact C1.p 28 rfl | exact C1.p 19 rfl | exact C1.p 18 rfl | rfl) ?_
      refine VW.iload_n (pc' := 72) d_Engine_carryOut_71 rfl rfl ?_
      refine VW.aload_n (pc' := 73) d_Engine_carryOut_72 rfl rfl ?_
      refine VW.gI (ci := 8) (T := T8) (N := 19) (k := 0) (k' := 0) (pc' := 76) d_Engine_carryOut_73 rfl lk_Engine_92 in8 rfl rfl rfl rfl (by first | exact hC.k 9 rfl | exact hC.k 13 rfl | exact hC.k 17 rfl | exact hC.k 18 rfl | exact hC.k 10 rfl | exact hC.k 23 rfl | exact hxk | exact k1x | exact C1.k 9 rfl | exact C1.k 13 rfl | exact C1.k 17 rfl | exact C1.k 18 rfl | exact C1.k 10 rfl | exact C1.k 23 rfl) (by first | exact hC.p 15 rfl | exact hC.p 27 rfl | exact hC.p 28 rfl | exact hC.p 19 rfl | exact hC.p 18 rfl | exact e7 | exact k02 | exact k03 | exact h0 | exact u00 | exact j02 | exact j03 | exact i10 | exact hpr | exact C1.p 15 rfl | exact C1.p 27 rfl | exact C1.p 28 rfl | exact C1.p 19 rfl | exact C1.p 18 rfl | rfl) ?_
      refine VW.iast (pc' := 77) d_Engine_carryOut_76 rfl (by first | exact hC.k 9 rfl | exact hC.k 13 rfl | exact hC.k 17 rfl | exact hC.k 18 rfl | exact hC.k 10 rfl | exact hC.k 23 rfl | exact hxk | exact k1x | exact C1.k 9 rfl | exact C1.k 13 rfl | exact C1.k 17 rfl | exact C1.k 18 rfl | exact C1.k 10 rfl | exact C1.k 23 rfl) (by omega) (by omega) ?_
      refine VW.aload_n (pc' := 78) d_Engine_carryOut_77 rfl rfl ?_
      refine VW.iload_n (pc' := 79) d_Engine_carryOut_78 rfl rfl ?_
      refine VW.cV (ci := 8) (T := T8) (N := 19) (pc' := 82) d_Engine_carryOut_79 rfl mv_Transaction_noteFootprint lk_Engine_157 rfl (by first | exact hC.k 9 rfl | exact hC.k 13 rfl | exact hC.k 17 rfl | exact hC.k 18 rfl | exact hC.k 10 rfl | exact hC.k 23 rfl | exact hxk | exact k1x | exact C1.k 9 rfl | exact C1.k 13 rfl | exact C1.k 17 rfl | exact C1.k 18 rfl | exact C1.k 10 rfl | exact C1.k 23 rfl) rfl rfl rfl (by show cs + 0 + c1 ≤ C; omega) (by show ns + 0 + q1 ≤ N; omega) (spf) rfl rfl ?_
      refine VW.iload_n (pc' := 83) d_Engine_carryOut_82 rfl rfl ?_
      refine VW.iconst (pc' := 84) d_Engine_carryOut_83 rfl (by decide) ?_
      refine VW.icmp_eq (tgt := 120) (pc' := 87) d_Engine_carryOut_84 rfl rfl (fun c84 => ?_) (fun c84 => ?_)
      case refine_1 => exact absurd c84 (by omega)
      refine VW.aload_n (pc' := 88) d_Engine_carryOut_87 rfl rfl ?_
      refine VW.gP (ci := 0) (T := T0) (N := 8) (k := 3) (k' := 3) (pc' := 91) d_Engine_carryOut_88 rfl lk_Engine_28 in0 rfl rfl rfl rfl (by first | exact hC.k 9 rfl | exact hC.k 13 rfl | exact hC.k 17 rfl | exact hC.k 18 rfl | exact hC.k 10 rfl | exact hC.k 23 rfl | exact hxk | exact k1x | exact C1.k 9 rfl | exact C1.k 13 rfl | exact C1.k 17 rfl | exact C1.k 18 rfl | exact C1.k 10 rfl | exact C1.k 23 rfl) (by first | exact hC.p 15 rfl | exact hC.p 27 rfl | exact hC.p 28 rfl | exact hC.p 19 rfl | exact hC.p 18 rfl | exact e7 | exact k02 | exact k03 | exact h0 | exact u00 | exact j02 | exact j03 | exact i10 | exact hpr | exact C1.p 15 rfl | exact C1.p 27 rfl | exact C1.p 28 rfl | exact C1.p 19 rfl | exact C1.p 18 rfl | rfl) ?_
      refine VW.aload_n (pc' := 92) d_Engine_carryOut_91 rfl rfl ?_
      refine VW.gI (ci := 8) (T := T8) (N := 19) (k := 0) (k' := 0) (pc' := 95) d_Engine_carryOut_92 rfl lk_Engine_92 in8 rfl rfl rfl rfl (by first | exact hC.k 9 rfl | exact hC.k 13 rfl | exact hC.k 17 rfl | exact hC.k 18 rfl | exact hC.k 10 rfl | exact hC.k 23 rfl | exact hxk | exact k1x | exact C1.k 9 rfl | exact C1.k 13 rfl | exact C1.k 17 rfl | exact C1.k 18 rfl | exact C1.k 10 rfl | exact C1.k 23 rfl) (by first | exact hC.p 15 rfl | exact hC.p 27 rfl | exact hC.p 28 rfl | exact hC.p 19 rfl | exact hC.p 18 rfl | exact e7 | exact k02 | exact k03 | exact h0 | exact u00 | exact j02 | exact j03 | exact i10 | exact hpr | exact C1.p 15 rfl | exact C1.p 27 rfl | exact C1.p 28 rfl | exact C1.p 19 rfl | exact C1.p 18 rfl | rfl) ?_
      refine VW.aload_n (pc' := 96) d_Engine_carryOut_95 rfl rfl ?_
      refine VW.gP (ci := 0) (T := T0) (N := 8) (k := 0) (k' := 0) (pc' := 99) d_Engine_carryOut_96 rfl lk_Engine_47 in0 rfl rfl rfl rfl (by first | exact hC.k 9 rfl | exact hC.k 13 rfl | exact hC.k 17 rfl | exact hC.k 18 rfl | exact hC.k 10 rfl | exact hC.k 23 rfl | exact hxk | exact k1x | exact C1.k 9 rfl | exact C1.k 13 rfl | exact C1.k 17 rfl | exact C1.k 18 rfl | exact C1.k 10 rfl | exact C1.k 23 rfl) (by first | exact hC.p 15 rfl | exact hC.p 27 rfl | exact hC.p 28 rfl | exact hC.p 19 rfl | exact hC.p 18 rfl | exact e7 | exact k02 | exact k03 | exact h0 | exact u00 | exact j02 | exact j03 | exact i10 | exact hpr | exact C1.p 15 rfl | exact C1.p 27 rfl | exact C1.p 28 rfl | exact C1.p 19 rfl | exact C1.p 18 rfl | rfl) ?_
      refine VW.gP (ci := 9) (T := T9) (N := 8) (k := 5) (k' := 5) (pc' := 102) d_Engine_carryOut_99 rfl lk_Engine_134 in9 rfl rfl rfl rfl (by first | exact hC.k 9 rfl | exact hC.k 13 rfl | exact hC.k 17 rfl | exact hC.k 18 rfl | exact hC.k 10 rfl | exact hC.k 23 rfl | exact hxk | exact k1x | exact C1.k 9 rfl | exact C1.k 13 rfl | exact C1.k 17 rfl | exact C1.k 18 rfl | exact C1.k 10 rfl | exact C1.k 23 rfl) (by first | exact hC.p 15 rfl | exact hC.p 27 rfl | exact hC.p 28 rfl | exact hC.p 19 rfl | exact hC.p 18 rfl | exact e7 | exact k02 | exact k03 | exact h0 | exact u00 | exact j02 | exact j03 | exact i10 | exact hpr | exact C1.p 15 rfl | exact C1.p 27 rfl | exact C1.p 28 rfl | exact C1.p 19 rfl | exact C1.p 18 rfl | rfl) ?_
      refine VW.iload_n (pc' := 103) d_Engine_carryOut_102 rfl rfl ?_
      refine VW.ild (pc' := 104) d_Engine_carryOut_103 rfl (by first | exact hC.k 9 rfl | exact hC.k 13 rfl | exact hC.k 17 rfl | exact hC.k 18 rfl | exact hC.k 10 rfl | exact hC.k 23 rfl | exact hxk | exact k1x | exact C1.k 9 rfl | exact C1.k 13 rfl | exact C1.k 17 rfl | exact C1.k 18 rfl | exact C1.k 10 rfl | exact C1.k 23 rfl) (by omega) (by omega) (by first | exact hC.p 15 rfl | exact hC.p 27 rfl | exact hC.p 28 rfl | exact hC.p 19 rfl | exact hC.p 18 rfl | exact e7 | exact k02 | exact k03 | exact h0 | exact u00 | exact j02 | exact j03 | exact i10 | exact hpr | exact C1.p 15 rfl | exact C1.p 27 rfl | exact C1.p 28 rfl | exact C1.p 19 rfl | exact C1.p 18 rfl | rfl) ?_
      refine VW.aload_n (pc' := 105) d_Engine_carryOut_104 rfl rfl ?_
      refine VW.gP (ci := 0) (T := T0) (N := 8) (k := 0) (k' := 0) (pc' := 108) d_Engine_carryOut_105 rfl lk_Engine_47 in0 rfl rfl rfl rfl (by first | exact hC.k 9 rfl | exact hC.k 13 rfl | exact hC.k 17 rfl | exact hC.k 18 rfl | exact hC.k 10 rfl | exact hC.k 23 rfl | exact hxk | exact k1x | exact C1.k 9 rfl | exact C1.k 13 rfl | exact C1.k 17 rfl | exact C1.k 18 rfl | exact C1.k 10 rfl | exact C1.k 23 rfl) (by first | exact hC.p 15 rfl | exact hC.p 27 rfl | exact hC.p 28 rfl | exact hC.p 19 rfl | exact hC.p 18 rfl | exact e7 | exact k02 | exact k03 | exact h0 | exact u00 | exact j02 | exact j03 | exact i10 | exact hpr | exact C1.p 15 rfl | exact C1.p 27 rfl | exact C1.p 28 rfl | exact C1.p 19 rfl | exact C1.p 18 rfl | rfl) ?_
      refine VW.gP (ci := 9) (T := T9) (N := 8) (k := 6) (k' := 6) (pc' := 111) d_Engine_carryOut_108 rfl lk_Engine_137 in9 rfl rfl rfl rfl (by first | exact hC.k 9 rfl | exact hC.k 13 rfl | exact hC.k 17 rfl | exact hC.k 18 rfl | exact hC.k 10 rfl | exact hC.k 23 rfl | exact hxk | exact k1x | exact C1.k 9 rfl | exact C1.k 13 rfl | exact C1.k 17 rfl | exact C1.k 18 rfl | exact C1.k 10 rfl | exact C1.k 23 rfl) (by first | exact hC.p 15 rfl | exact hC.p 27 rfl | exact hC.p 28 rfl | exact hC.p 19 rfl | exact hC.p 18 rfl | exact e7 | exact k02 | exact k03 | exact h0 | exact u00 | exact j02 | exact j03 | exact i10 | exact hpr | exact C1.p 15 rfl | exact C1.p 27 rfl | exact C1.p 28 rfl | exact C1.p 19 rfl | exact C1.p 18 rfl | rfl) ?_
      refine VW.iload_n (pc' := 112) d_Engine_carryOut_111 rfl rfl ?_
      refine VW.ild (pc' := 113) d_Engine_carryOut_112 rfl (by first | exact hC.k 9 rfl | exact hC.k 13 rfl | exact hC.k 17 rfl | exact hC.k 18 rfl | exact hC.k 10 rfl | exact hC.k 23 rfl | exact hxk | exact k1x | exact C1.k 9 rfl | exact C1.k 13 rfl | exact C1.k 17 rfl | exact C1.k 18 rfl | exact C1.k 10 rfl | exact C1.k 23 rfl) (by omega) (by omega) (by first | exact hC.p 15 rfl | exact hC.p 27 rfl | exact hC.p 28 rfl | exact hC.p 19 rfl | exact hC.p 18 rfl | exact e7 | exact k02 | exact k03 | exact h0 | exact u00 | exact j02 | exact j03 | exact i10 | exact hpr | exact C1.p 15 rfl | exact C1.p 27 rfl | exact C1.p 28 rfl | exact C1.p 19 rfl | exact C1.p 18 rfl | rfl) ?_
      refine VW.aload_n (pc' := 114) d_Engine_carryOut_113 rfl rfl ?_
      refine VW.gP (ci := 8) (T := T8) (N := 19) (k := 3) (k' := 3) (pc' := 117) d_Engine_carryOut_114 rfl lk_Engine_81 in8 rfl rfl rfl rfl (by first | exact hC.k 9 rfl | exact hC.k 13 rfl | exact hC.k 17 rfl | exact hC.k 18 rfl | exact hC.k 10 rfl | exact hC.k 23 rfl | exact hxk | exact k1x | exact C1.k 9 rfl | exact C1.k 13 rfl | exact C1.k 17 rfl | exact C1.k 18 rfl | exact C1.k 10 rfl | exact C1.k 23 rfl) (by first | exact hC.p 15 rfl | exact hC.p 27 rfl | exact hC.p 28 rfl | exact hC.p 19 rfl | exact hC.p 18 rfl | exact e7 | exact k02 | exact k03 | exact h0 | exact u00 | exact j02 | exact j03 | exact i10 | exact hpr | exact C1.p 15 rfl | exact C1.p 27 rfl | exact C1.p 28 rfl | exact C1.p 19 rfl | exact C1.p 18 rfl | rfl) ?_
      refine VW.cV (ci := 2) (T := T2) (N := 5) (pc' := 120) d_Engine_carryOut_117 rfl mv_Log_addWrite lk_Engine_161 rfl (by first | exact hC.k 9 rfl | exact hC.k 13 rfl | exact hC.k 17 rfl | exact hC.k 18 rfl | exact hC.k 10 rfl | exact hC.k 23 rfl | exact hxk | exact k1x | exact C1.k 9 rfl | exact C1.k 13 rfl | exact C1.k 17 rfl | exact C1.k 18 rfl | exact C1.k 10 rfl | exact C1.k 23 rfl) rfl rfl rfl (by show cs + 0 + c1 + c2 ≤ C; omega) (by show ns + 0 + q1 + q2 ≤ N; omega) (spw) rfl rfl ?_
      refine VW.iinc (pc' := 123) d_Engine_carryOut_120 rfl rfl rfl (by omega) ?_
      refine VW.goto (pc' := 16) d_Engine_carryOut_123 rfl ?_
      refine VW.pick [0, 1, 2] ?_
      exact n9
section
variable {K : KT} {P : PT} {J I : IT}
def coI (I : IT) (i : Nat) : IT := cpyI I 1129 0 (tX i + 33) 0 192
theorem coI_o {i o : Nat} (h : o ≠ tX i + 33) : coI I i o = I o := funext (fun z => if_neg (fun q => h q.1))
theorem carry_ex {i l m g n k0 : Nat} (hi : i < 60) (hC : ClW K P) (hT : TxV K P i l m) (hN : TxN I i l m) (h0 : I (tX i) 0 = i) (hV : LgV K P g) (hL : LgN I g n) (h7 : I 1096 7 = k0) (h48 : k0 ≤ 48) (ht : ∀ j : Int, 0 ≤ j → j < k0 → (0 ≤ I 1102 j ∧ I 1102 j < 6) ∧ -1000 ≤ I 1103 j ∧ I 1103 j ≤ 1000) (hn : n + k0 ≤ 16384) (hb : I (tX i) 17 + k0 < 100000) :
    ∃ (m' g' c q : Nat) (K' : KT) (P' : PT) (I' : IT), (ClW K' P' ∧ TxV K' P' i l m' ∧ TxN I' i l m' ∧ LgV K' P' g' ∧ LgN I' g' (n + k0)) ∧ Fr (nCo i) K P I K' P' I' ∧ (c + m + g = m' + g' ∧ q + pf m + lgP g = pf m' + lgP g') ∧ CoD (coI I i) I' i l m m' g g' n (trL I k0) ∧
      Sp m_Engine_carryOut false ({ frames := 4, cells := c, slots := q, locals := 320 } : Room) (ex K' P' J I' (.inl none)) K P J I [vR (some 1064), vR (some (tX i))] := by
  have x0 : 2000 ≤ tX i := by unfold tX; omega
  have co := fun o (h : o ≠ tX i + 33) => coI_o (I := I) h
  have l15 := hT.2.2.2.2
  have N0 : TxN (coI I i) i l m := by
    unfold TxN at *
    rw [co (tX i) (by omega), co (tX i + 40 + l) (by omega), co (tX i + 80 + m) (by omega)]
    exact hN
  have eL : trL (coI I i) k0 = trL I k0 := by
    unfold trL
    rw [co 1102 (by omega), co 1103 (by omega)]
  obtain ⟨m', g', c, q, K', P', I', a1, a2, a3, a4, a5⟩ := carry_loop (J := J) (I0 := coI I i) (l := l) hi h48 (by rw [co 1102 (by omega), co 1103 (by omega)]; exact ht) (by rw [co 1096 (by omega)]; exact h7) hn k0 0 m g K P (coI I i) (by omega) hC hT N0 hV (by unfold LgN; rw [co 1192 (by omega)]; exact hL) (fun _ _ => rfl) (by rw [co (tX i) (by omega)]; exact h0) (by rw [co (tX i) (by omega)]; omega)
  rw [List.drop_zero, eL] at a4
  refine ⟨m', g', c, q, K', P', I', a1, fun o ho => ?_, a3, a4, ?_⟩
  · have := a2 o ho
    exact ⟨this.1, this.2.1, this.2.2.trans (co o (fun z => ho (Or.inl (by unfold nTx; omega))))⟩
  have l9 := a5 c q 0 0 (by omega) (by omega)
  clear a5
  have hxk := hT.k
  have hpr := hT.pr
  refine Sp.ofV (by decide) (Or.inr rfl) rfl ?_
  refine VW.aload_n (pc' := 1) d_Engine_carryOut_0 rfl rfl ?_
  refine VW.gP (ci := 8) (T := T8) (N := 19) (k := 3) (k' := 3) (pc' := 4) d_Engine_carryOut_1 rfl lk_Engine_81 in8 rfl rfl rfl rfl (by first | exact hC.k 9 rfl | exact hC.k 13 rfl | exact hC.k 17 rfl | exact hC.k 18 rfl | exact hC.k 10 rfl | exact hC.k 23 rfl | exact hxk | exact hT.rows.1) (by first | exact hC.p 15 rfl | exact hC.p 27 rfl | exact hC.p 28 rfl | exact hC.p 19 rfl | exact hC.p 18 rfl | exact hpr | exact hC.p 23 rfl | rfl) ?_
  refine VW.aload_n (pc' := 5) d_Engine_carryOut_4 rfl rfl ?_
  refine VW.gP (ci := 0) (T := T0) (N := 8) (k := 0) (k' := 0) (pc' := 8) d_Engine_carryOut_5 rfl lk_Engine_47 in0 rfl rfl rfl rfl (by first | exact hC.k 9 rfl | exact hC.k 13 rfl | exact hC.k 17 rfl | exact hC.k 18 rfl | exact hC.k 10 rfl | exact hC.k 23 rfl | exact hxk | exact hT.rows.1) (by first | exact hC.p 15 rfl | exact hC.p 27 rfl | exact hC.p 28 rfl | exact hC.p 19 rfl | exact hC.p 18 rfl | exact hpr | exact hC.p 23 rfl | rfl) ?_
  refine VW.gP (ci := 9) (T := T9) (N := 8) (k := 1) (k' := 1) (pc' := 11) d_Engine_carryOut_8 rfl lk_Engine_154 in9 rfl rfl rfl rfl (by first | exact hC.k 9 rfl | exact hC.k 13 rfl | exact hC.k 17 rfl | exact hC.k 18 rfl | exact hC.k 10 rfl | exact hC.k 23 rfl | exact hxk | exact hT.rows.1) (by first | exact hC.p 15 rfl | exact hC.p 27 rfl | exact hC.p 28 rfl | exact hC.p 19 rfl | exact hC.p 18 rfl | exact hpr | exact hC.p 23 rfl | rfl) ?_
  refine VW.cV (ci := 6) (T := T6) (N := 1) (pc' := 14) d_Engine_carryOut_11 rfl mv_Rows_copyFrom lk_Engine_84 rfl (by first | exact hC.k 9 rfl | exact hC.k 13 rfl | exact hC.k 17 rfl | exact hC.k 18 rfl | exact hC.k 10 rfl | exact hC.k 23 rfl | exact hxk | exact hT.rows.1) rfl rfl rfl (Nat.zero_le _) (Nat.zero_le _) (sp_Rows_copyFrom hT.rows hC.af) rfl rfl ?_
  refine VW.iconst (pc' := 15) d_Engine_carryOut_14 rfl (by decide) ?_
  refine VW.istore_n (pc' := 16) d_Engine_carryOut_15 rfl rfl ?_
  refine VW.pick [0, 1, 2] ?_
  exact l9
end
