/-! the law's start: class and reference, no call made -/
section
variable {K : KT} {P : PT} {J I S T : IT} {cs ns : Nat}
/-- the class's numbers at the start -/
def IZ (I : IT) : Prop := (∀ o, 1000 ≤ o → o ≠ 1037 → o ≠ 1161 → o ≠ 1129 → o ≠ 1069 → ∀ k, I o k = 0) ∧ (∀ k, 0 ≤ k → k < 24 → I 1037 k = -1) ∧ (∀ k, 0 ≤ k → k < 192 → I 1161 k = -2147483648) ∧ ∀ k, 0 ≤ k → k < 12006 → I 1069 k = -1
/-- the reference's -/
def SZr (S : IT) : Prop := (∀ o, o ≠ 206 → ∀ k, S o k = 0) ∧ (∀ k, S 206 k = -1 ∨ S 206 k = 0) ∧ ∀ k, 0 ≤ k → k < 24 → S 206 k = -1
/-- what stands at the start -/
def KZ (K : KT) (P : PT) : Prop := ClW K P ∧ K 999 = some (104, 0) ∧ (∀ o, 2000 ≤ o → o < 13000 → o ≠ 12000 → ¬ (10000 ≤ o ∧ o < 10032) → K o = none) ∧ (P 1192 2 = some 12000 ∧ K 12000 = some (100, 512)) ∧ (P 1448 1 = some 999 ∧ P 1480 1 = some 999 ∧ P 1512 1 = some 999 ∧ P 1544 1 = some 999) ∧ (P 1000 10 = some 10000 ∧ QuW K P 10000) ∧ P 1226 0 = some 1256 ∧ P 1226 1 = some 1288 ∧ P 1226 2 = some 1320 ∧ P 1226 3 = some 1352
theorem lsv_0 {o b ci i : Nat} (h : KZ K P) (hi : KCL[i]? = some (o, 12, 0)) (hp : P o 1 = some 999) (hz : ∀ k, I o k = 0) (hb : 2000 ≤ b ∧ b < 12980 ∧ b ≠ 12000 ∧ ∀ j, 0 < j → j < 20 → b + j ≠ 12000 ∧ ¬ (10000 ≤ b + j ∧ b + j < 10032)) : LsV K P I o b 0 0 ci :=
  ⟨⟨h.1.k i hi, hp, h.2.1⟩, fun j j0 j1 => h.2.2.1 (b + j) (by omega) (by omega) (hb.2.2.2 j j0 j1).1 (hb.2.2.2 j j0 j1).2, by decide, ⟨hz 2, Nat.zero_le _, hz 0⟩, fun i q i0 i1 => by omega⟩
theorem frl_0 {b : Nat} (hw : WF K P J I) (h : ∀ j, 0 < j → j < 20 → K (b + j) = none) : FreeL P b 0 := fun j i j0 j1 => (hw.2.2.2 (b + j) (h j j0 j1)).2.2 i
theorem ev_0 (h : KZ K P) : EvW K P := by
  obtain ⟨hC, -, -, -, -, -, e0, e1, e2, e3⟩ := h
  refine ⟨fun i => 1256 + 32 * i, ⟨hC.k 26 rfl, hC.p 34 rfl, hC.k 27 rfl, fun i hi => ?_, fun i j _ _ hij e => hij (by have e2 : 1256 + 32 * i = 1256 + 32 * j := e; omega)⟩, fun i hi => ?_⟩
  · have : i = 0 ∨ i = 1 ∨ i = 2 ∨ i = 3 := by omega
    rcases this with rfl | rfl | rfl | rfl
    · exact ⟨e0, hC.k 31 rfl, hC.p 38 rfl, hC.k 32 rfl⟩
    · exact ⟨e1, hC.k 33 rfl, hC.p 39 rfl, hC.k 34 rfl⟩
    · exact ⟨e2, hC.k 35 rfl, hC.p 40 rfl, hC.k 36 rfl⟩
    · exact ⟨e3, hC.k 37 rfl, hC.p 41 rfl, hC.k 38 rfl⟩
  · show nRl (1256 + 32 * i) ∧ nRl (1256 + 32 * i + 1)
    unfold nRl
    omega
theorem mnx_0 (hS : SZr S) : mNext S = -1 := by
  unfold mNext
  rw [hS.1 100 (by decide) 19]
  rfl
theorem min_0 {s t : Int} {ρ : Rw4} (hS : SZr S) : ¬ mIn S s t ρ := fun ⟨r, a, b, _⟩ => by
  rw [hS.1 214 (by decide)] at b
  omega
theorem zi_0 (hS : SZr S) : ZI 0 (-1) S := by
  have z := hS.1
  have n0 : nS S = 0 := by unfold nS; rw [z 100 (by decide) 19]; rfl
  refine ⟨⟨[], [], fun _ => 0, fun _ => 0, 0, 0, ⟨⟨List.nodup_nil, fun x hx => (by cases hx)⟩, fun t ρ _ _ h => absurd h (min_0 hS), fun j hj => by omega⟩, fun g hg => (by cases hg), fun j hj => by omega, ?_, ?_, ?_⟩, fun r r0 r1 => ?_, fun x _ _ => Or.inr ?_, ⟨fun j _ => z 233 (by decide) j, fun j _ _ t _ _ => z 236 (by decide) _⟩, fun r r0 r1 => ?_, fun r r0 r1 => ?_, fun j j1 => ?_⟩
  · rw [n0, z 100 (by decide) 37]
    exact Nat.le_refl 0
  · rw [n0]
    exact Nat.le_refl 0
  · rw [n0, z 100 (by decide) 44]
    exact Nat.le_refl 0
  · rw [z 100 (by decide) 44] at r1
    omega
  · rw [z 225 (by decide) x]
    exact ⟨by decide, by decide⟩
  · rw [z 100 (by decide) 44] at r1
    omega
  · rw [z 100 (by decide) 44] at r1
    omega
  · rw [z 100 (by decide) 19] at j1
    omega
theorem er_0 (hI : IZ I) (hS : SZr S) : ER I S 0 0 0 (fun _ => 0) (fun _ => 0) 0 := by
  have z := hS.1
  obtain ⟨y, y37, y61, y69⟩ := hI
  have noop : ∀ i, ¬ opS S 0 i := fun i h => by have := h.1; omega
  have z206 : ∀ k, -1 ≤ S 206 k ∧ S 206 k < 6 := fun k => by have := hS.2.1 k; omega
  have c61 : ∀ t p : Int, 0 ≤ t → t < 6 → t * 8 ≤ p → p < t * 8 + 8 → I 1161 (p * 4) = -2147483648 := fun t p _ _ _ _ => y61 _ (by omega) (by omega)
  refine ⟨⟨⟨?_, ?_, ?_, ?_, ?_, ?_⟩, ?_, ?_, ?_, ?_, ?_, ?_, ?_, ?_, ?_⟩, ⟨?_, ?_, ?_, ?_, ?_, ?_, ?_, ?_, ?_, ?_⟩, ⟨z 100 (by decide) 19, z 100 (by decide) 44, by decide, by decide⟩, fun i hi => by omega, fun i hi => by omega, fun i k hi => by omega, ⟨fun i j h => absurd h (noop i), fun p _ _ => ⟨fun h => absurd (z 226 (by decide) p) h, fun ⟨i, h, _⟩ => absurd h (noop i)⟩⟩, fun i h => absurd h (noop i), ⟨⟨fun t ρ t0 t1 => ⟨fun ⟨p, a, b, c, _⟩ => absurd (c61 t p t0 t1 a b) c, fun h => absurd h (min_0 hS)⟩, ?_, ?_, ?_⟩, ⟨?_, ?_, ?_⟩, fun t ρ _ _ h => absurd h (min_0 hS)⟩, ?_⟩
  · rw [y 1032 (by decide) (by decide) (by decide) (by decide) (by decide), z 100 (by decide)]
  · intro t _ _
    rw [y 1034 (by decide) (by decide) (by decide) (by decide) (by decide), y 1035 (by decide) (by decide) (by decide) (by decide) (by decide), z 201 (by decide), z 202 (by decide)]
    exact ⟨rfl, rfl⟩
  · intro t j _ _ _ h
    rw [z 202 (by decide)] at h
    omega
  · intro c c0 c1
    rw [y37 c c0 c1, hS.2.2 c c0 c1, y 1038 (by decide) (by decide) (by decide) (by decide) (by decide), z 207 (by decide)]
    exact ⟨rfl, rfl⟩
  · rw [y 1032 (by decide) (by decide) (by decide) (by decide) (by decide), z 100 (by decide)]
  · intro j _ h
    rw [z 100 (by decide)] at h
    omega
  · rw [z 100 (by decide)]
    exact ⟨by decide, by decide⟩
  · intro t _ h
    rw [z 100 (by decide)] at h
    omega
  · intro t _ _
    exact ⟨z 201 (by decide) t, z 202 (by decide) t⟩
  · intro t _ _
    rw [z 202 (by decide)]
    exact ⟨by decide, by decide⟩
  · intro t j _ _ _ h
    rw [z 202 (by decide)] at h
    omega
  · intro t c _ _ _ _
    exact Or.inl (hS.2.2 _ (by omega) (by omega))
  · rw [z 100 (by decide)]
    exact ⟨by decide, by decide⟩
  · intro j
    rw [z 211 (by decide)]
    exact ⟨by decide, by decide⟩
  · intro k
    have := hS.2.1 k
    omega
  · rw [z 100 (by decide)]
    exact ⟨by decide, by decide⟩
  · intro t
    rw [z 201 (by decide)]
    exact ⟨by decide, by decide⟩
  · intro t
    rw [z 202 (by decide)]
    exact ⟨by decide, by decide⟩
  · exact z206
  · rw [z 100 (by decide)]
    exact ⟨by decide, by decide⟩
  · intro k
    rw [z 211 (by decide)]
    exact ⟨by decide, by decide⟩
  · intro k
    rw [z 214 (by decide)]
    exact ⟨by decide, by decide⟩
  · rw [z 100 (by decide)]
    exact ⟨by decide, by decide⟩
  · intro k
    rw [z 223 (by decide)]
    exact ⟨by decide, by decide⟩
  · intro k
    exact Or.inl (z 236 (by decide) k)
  · intro t p q t0 t1 p0 p1 _ _ h
    exact absurd (c61 t p t0 t1 p0 p1) h
  · intro p c p0 p1 _ c0 c1
    exact y61 _ (by omega) (by omega)
  · intro k k0 k1
    exact Or.inl (y61 k k0 k1)
  · intro t _ _
    rw [z 214 (by decide)]
    exact ⟨by decide, by decide⟩
  · intro t r q _ _ _ h
    rw [z 214 (by decide)] at h
    omega
  · intro t r _ _ _ h
    rw [z 214 (by decide)] at h
    omega
  refine ⟨⟨⟨fun k _ _ => ?_, fun k _ _ => ?_, ?_⟩, ⟨?_, ?_, ?_⟩, fun t k _ _ _ _ => ?_, fun t _ _ => ?_, fun i hi => by omega⟩, ⟨⟨?_, ?_⟩, fun r hr => by omega⟩, ⟨fun r r0 r1 => by omega, fun r _ => ?_⟩, ⟨fun i h => absurd h (noop i), fun i hi => by omega⟩, fun r q r0 rq q1 => by omega, fun i h => absurd h (noop i), ⟨fun k k0 k1 => Or.inl (y69 k k0 k1), fun i h => absurd h (noop i)⟩, fun i h => absurd h (noop i), fun i h => absurd h (noop i), ⟨fun j r t k hj => by omega, fun t k t0 t1 _ => ?_⟩, ⟨fun i hi => by omega, fun j => ?_, by decide⟩, fun i hi => by omega⟩
  · rw [y 1070 (by decide) (by decide) (by decide) (by decide) (by decide), z 217 (by decide)]
  · rw [y 1071 (by decide) (by decide) (by decide) (by decide) (by decide), z 218 (by decide)]
  · rw [y 1064 (by decide) (by decide) (by decide) (by decide) (by decide), z 100 (by decide)]
  · rw [z 100 (by decide)]
    decide
  · rw [z 100 (by decide), z 100 (by decide)]
    decide
  · rw [z 100 (by decide)]
    decide
  · rw [z 217 (by decide), z 218 (by decide)]
    decide
  · rw [z 218 (by decide), z 100 (by decide)]
    decide
  · exact y 1192 (by decide) (by decide) (by decide) (by decide) (by decide) 0
  · rw [y 1192 (by decide) (by decide) (by decide) (by decide) (by decide), z 100 (by decide)]
  · rw [z 248 (by decide), z 249 (by decide)]
    decide
  · refine (rwFind_none ⟨t0, t1⟩).mpr ?_
    by_cases e : k = -2147483648
    · exact Or.inl e
    · exact Or.inr (fun p p0 p1 q => e (by rw [← q]; exact c61 t p t0 t1 p0 p1))
  · rw [z 234 (by decide)]
    decide
theorem trr_0 {q : Nat} (hq : ∀ o, q ≤ o → o < q + 32 → ∀ k, I o k = 0) (hS : SZr S) : TrR I S q 0 := by
  have z := hS.1
  refine ⟨⟨?_, ?_, ?_, ?_⟩, ⟨by decide, fun k hk => by omega⟩, ⟨⟨?_, fun k hk => by omega⟩, fun k hk => by omega⟩, ⟨?_, ?_⟩, rfl, fun j e h => (by cases h), fun j r h => (by cases h), fun j => ?_, fun k => ?_⟩
  · rw [z 100 (by decide)]; rfl
  · rw [hq q (Nat.le_refl _) (by omega)]; rfl
  · rw [hq q (Nat.le_refl _) (by omega), z 100 (by decide)]
  · rw [hq q (Nat.le_refl _) (by omega), z 100 (by decide)]
  · rw [hq q (Nat.le_refl _) (by omega)]; rfl
  · rw [z 100 (by decide)]; rfl
  · rw [z 100 (by decide)]; rfl
  · rw [hq (q + 9) (by omega) (by omega)]
    decide
  · rw [z 254 (by decide)]
    decide
/-- no call made -/
theorem lr_0 (hw : WF K P J I) (hK : KZ K P) (hI : IZ I) (hS : SZr S) (hT : ∀ k, T 287 k = 0) (hc : cs ≤ 2000) (hn : ns ≤ 1600000) : LR 0 K P I S T cs ns := by
  have z := hS.1
  have hI0 := hI
  obtain ⟨y, y37, y61, y69⟩ := hI
  have hK0 := hK
  obtain ⟨hC, h9, hf, ⟨g1, g2⟩, ⟨l1, l2, l3, l4⟩, ⟨q1, q2⟩, -⟩ := hK
  have yz : ∀ o, 1000 ≤ o → o ≠ 1037 → o ≠ 1161 → o ≠ 1129 → o ≠ 1069 → ∀ k, I o k = 0 := y
  refine ⟨0, 0, 0, 0, fun _ => 0, fun _ => 0, 0, 0, 0, 0, 0, 0, 0, 0, [], ⟨⟨⟨hC, ⟨⟨⟨hC.k 23 rfl, ⟨g1, g2⟩, ⟨hC.p 31 rfl, hC.k 24 rfl⟩, hC.p 32 rfl, hC.k 25 rfl⟩, fun j j0 j1 => hf _ (by omega) (by omega) (by omega) (by omega), by decide⟩, ⟨y 1192 (by decide) (by decide) (by decide) (by decide) (by decide) 0, by decide⟩⟩, ⟨lsv_0 hK0 (i := 53) rfl l1 (y 1448 (by decide) (by decide) (by decide) (by decide) (by decide)) ⟨by decide, by decide, by decide, fun j _ _ => ⟨by omega, by omega⟩⟩, by decide, fun j hj => by omega⟩, fun i hi => by omega⟩, er_0 hI0 hS⟩, ⟨zi_0 hS, mnx_0 hS, ?_⟩, fun j hj => by omega, fun j _ j1 a a1 => ⟨hf _ (by unfold tX; omega) (by unfold tX; omega) (by unfold tX; omega) (by unfold tX; omega), fun k => y _ (by unfold tX; omega) (by unfold tX; omega) (by unfold tX; omega) (by unfold tX; omega) (by unfold tX; omega) k⟩, frl_0 hw (fun j j0 j1 => hf _ (by omega) (by omega) (by omega) (by omega))⟩, ⟨by decide, ?_⟩, ⟨⟨?_, fun c _ h => ?_⟩, ?_, ?_⟩, ⟨⟨⟨lsv_0 hK0 (i := 54) rfl l2 (y 1480 (by decide) (by decide) (by decide) (by decide) (by decide)) ⟨by decide, by decide, by decide, fun j _ _ => ⟨by omega, by omega⟩⟩, by decide, fun j hj => by omega⟩, z 100 (by decide) 61⟩, fun j hj => by omega, ⟨q1, q2, trr_0 (fun o o0 o1 k => y o (by unfold qX at o0; omega) (by unfold qX at o0; omega) (by unfold qX at o0; omega) (by unfold qX at o0; omega) (by unfold qX at o0; omega) k) hS⟩, ⟨fun j j0 j1 a a1 => ⟨hf _ (by unfold qX; omega) (by unfold qX; omega) (by unfold qX; omega) (by unfold qX; omega), fun k => y _ (by unfold qX; omega) (by unfold qX; omega) (by unfold qX; omega) (by unfold qX; omega) (by unfold qX; omega) k⟩, frl_0 hw (fun j j0 j1 => hf _ (by omega) (by omega) (by omega) (by omega))⟩, ⟨?_, ?_, ?_, ?_, ?_, ?_⟩, fun k => Or.inl (z 260 (by decide) k)⟩, ⟨⟨⟨⟨lsv_0 hK0 (i := 55) rfl l3 (y 1512 (by decide) (by decide) (by decide) (by decide) (by decide)) ⟨by decide, by decide, by decide, fun j _ _ => ⟨by omega, by omega⟩⟩, lsv_0 hK0 (i := 56) rfl l4 (y 1544 (by decide) (by decide) (by decide) (by decide) (by decide)) ⟨by decide, by decide, by decide, fun j _ _ => ⟨by omega, by omega⟩⟩⟩, by decide, fun j hj => by omega⟩, z 100 (by decide) 68⟩, fun j hj => by omega, fun j _ j1 b b1 => ⟨hf _ (by unfold vX; omega) (by unfold vX; omega) (by unfold vX; omega) (by unfold vX; omega), fun k => y _ (by unfold vX; omega) (by unfold vX; omega) (by unfold vX; omega) (by unfold vX; omega) (by unfold vX; omega) k⟩, frl_0 hw (fun j j0 j1 => hf _ (by omega) (by omega) (by omega) (by omega)), frl_0 hw (fun j j0 j1 => hf _ (by omega) (by omega) (by omega) (by omega))⟩, ⟨ev_0 hK0, ⟨y 1416 (by decide) (by decide) (by decide) (by decide) (by decide) 2, y 1416 (by decide) (by decide) (by decide) (by decide) (by decide) 1, rfl⟩, ⟨z 100 (by decide) 77, z 100 (by decide) 78⟩, ⟨by decide, by decide⟩, fun a b a0 a1 => ?_⟩, ⟨⟨⟨fun t _ _ => ?_, fun k _ _ => ?_⟩, fun l _ _ => ?_, fun p _ _ => ?_⟩, ⟨fun j hj => by omega, ?_⟩, fun k => ?_, fun k => ?_, ?_, fun k => ?_, fun k _ _ => z 263 (by decide) k, y _ (by unfold qX; omega) (by unfold qX; omega) (by unfold qX; omega) (by unfold qX; omega) (by unfold qX; omega) 9⟩, ?_⟩
  · rw [z 100 (by decide)]
    decide
  · rw [z 100 (by decide)]
    decide
  · rw [y 1000 (by decide) (by decide) (by decide) (by decide) (by decide), z 100 (by decide)]
  · rw [z 100 (by decide)] at h
    omega
  · rw [z 100 (by decide)]
    decide
  · rw [z 100 (by decide)]
    decide
  · rw [z 100 (by decide)]
    decide
  · rw [z 100 (by decide)]
    decide
  · rw [z 100 (by decide)]
    decide
  · intro k
    rw [z 254 (by decide)]
    decide
  · rw [z 100 (by decide)]
    decide
  · intro k
    rw [z 262 (by decide)]
    decide
  · have : a < 0 := a1
    omega
  · rw [y 1385 (by decide) (by decide) (by decide) (by decide) (by decide), z 291 (by decide)]
    decide
  · rw [y 1386 (by decide) (by decide) (by decide) (by decide) (by decide), z 292 (by decide)]
    decide
  · rw [y 1390 (by decide) (by decide) (by decide) (by decide) (by decide)]
    decide
  · rw [y 1393 (by decide) (by decide) (by decide) (by decide) (by decide)]
    decide
  · rw [y 1384 (by decide) (by decide) (by decide) (by decide) (by decide), z 100 (by decide)]
  · rw [hT]
    decide
  · rw [z 292 (by decide)]
    decide
  · rw [z 100 (by decide)]
    decide
  · rw [z 265 (by decide)]
    decide
  · unfold RmR
    omega
end
