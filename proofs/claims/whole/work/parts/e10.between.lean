/-! class and reference between two calls: the parts -/
section
variable {K K' : KT} {P P' : PT} {I I' S S' T T' : IT} {c n N g lq nq lqq nv l3 l4 tn w k : Nat} {lv mv : Nat → Nat} {q s y x : Int} {M : List (List Int)}
/-- a query's results are the same where its scans' are -/
theorem evK_of {n : Nat} (ho : ∀ j : Nat, j < n → S' 256 (x + j) = S 256 (x + j) ∧ S' 257 (x + j) = S 257 (x + j) ∧ S' 258 (x + j) = S 258 (x + j) ∧ S' 259 (x + j) = S 259 (x + j) ∧ S' 260 (x + j) = S 260 (x + j)) (hs : ∀ j : Nat, j < n → S 256 (x + j) = 0 → scM S' s y (S 257 (x + j)) = scM S s y (S 257 (x + j))) : ∀ k : Nat, k ≤ n → evK S' s y x k = evK S s y x k
  | 0, _ => rfl
  | k + 1, hk => by
    have ih := evK_of ho hs k (by omega)
    obtain ⟨a, b, c, d, e⟩ := ho k (by omega)
    show ev1 (scM S' s y) (S' 256 (x + k)) (S' 257 (x + k)) (S' 258 (x + k)) (S' 259 (x + k)) (S' 260 (x + k)) (evK S' s y x k) = ev1 (scM S s y) (S 256 (x + k)) (S 257 (x + k)) (S 258 (x + k)) (S 259 (x + k)) (S 260 (x + k)) (evK S s y x k)
    rw [a, b, c, d, e, ih]
    by_cases z : S 256 (x + k) = 0
    · rw [ev1_0 z, ev1_0 z, hs k (by omega) z]
    · unfold ev1
      rw [if_neg z, if_neg z]
theorem FnOK.of {L : List (List Int)} (h : FnOK S s y q n w L) (h2 : S' 262 q = S 262 q) (ho : ∀ j : Nat, j < n → S' 256 (12 * (q + 1) + j) = S 256 (12 * (q + 1) + j) ∧ S' 257 (12 * (q + 1) + j) = S 257 (12 * (q + 1) + j) ∧ S' 258 (12 * (q + 1) + j) = S 258 (12 * (q + 1) + j) ∧ S' 259 (12 * (q + 1) + j) = S 259 (12 * (q + 1) + j) ∧ S' 260 (12 * (q + 1) + j) = S 260 (12 * (q + 1) + j)) (hs : ∀ j : Nat, j < n → S 256 (12 * (q + 1) + j) = 0 → scM S' s y (S 257 (12 * (q + 1) + j)) = scM S s y (S 257 (12 * (q + 1) + j))) : FnOK S' s y q n w L := by
  have e := evK_of ho hs
  obtain ⟨⟨a1, a2⟩, b, c, d⟩ := h
  refine ⟨⟨h2.trans a1, a2⟩, fun k hk => ?_, fun k hk => ?_, ?_⟩
  · obtain ⟨o1, o2, o3, o4, -⟩ := ho k hk
    rw [o1, o2, o3, o4, e k (by omega)]
    exact b k hk
  · rw [e k hk]; exact c k hk
  · rw [e n (Nat.le_refl _)]; exact d
theorem FnOK.sc {L : List (List Int)} (h : FnOK S s y q n w L) {j : Nat} (hj : j < n) (h0 : S 256 (12 * (q + 1) + j) = 0) : 0 ≤ S 257 (12 * (q + 1) + j) ∧ S 257 (12 * (q + 1) + j) < 6 := ((h.2.1 j hj).1 h0).1
/-- what all see of a table hangs on what is committed -/
theorem scM_4 {t : Int} (ht : 0 ≤ t ∧ t < 6) (hS : SSch S) (hS' : SSch S') (h4 : St4 S S') (h1 : S' 201 t = S 201 t) (hv : ∀ ρ, rowSeen S' 0 t ρ ↔ rowSeen S 0 t ρ) : scM S' 4 0 t = scM S 4 0 t := by
  unfold scM
  rw [h1, h4.1 (6 * 4 + t) (by omega)]
  have e : ∀ m : Nat, scanK S' 4 0 t (S 201 t).toNat m = scanK S 4 0 t (S 201 t).toNat m := fun m => by
    induction m with
    | zero => rfl
    | succ m ih =>
      have zr : 6144 ≤ mrow 4 t m := by unfold mrow; omega
      have eq4 : q4 (S' 215) (mrow 4 t m) = q4 (S 215) (mrow 4 t m) := by
        unfold q4
        rw [h4.2 _ (by omega), h4.2 _ (by omega), h4.2 _ (by omega), h4.2 _ (by omega)]
      have es : mSeen S' 0 4 t m ↔ mSeen S 0 4 t m := by
        rw [mseen_eq hS', mseen_eq hS, eq4]
        exact hv _
      have er : rowAt S' 215 (mrow 4 t m) (S 201 t).toNat = rowAt S 215 (mrow 4 t m) (S 201 t).toNat := rowAt_congr (fun c c0 _ => h4.2 _ (by omega))
      by_cases z : mSeen S 0 4 t m
      · rw [scanK_yes z, scanK_yes (es.mpr z), ih, er]
      · rw [scanK_no z, scanK_no (fun u => z (es.mp u)), ih]
  rw [e]
theorem VwC.of (h : VwC S q w M) (hs : SSch S) (hs' : SSch S') (h4 : St4 S S') (h2 : S' 262 q = S 262 q) (ho : ∀ j : Nat, j < 12 → S' 256 (12 * (q + 1) + j) = S 256 (12 * (q + 1) + j) ∧ S' 257 (12 * (q + 1) + j) = S 257 (12 * (q + 1) + j) ∧ S' 258 (12 * (q + 1) + j) = S 258 (12 * (q + 1) + j) ∧ S' 259 (12 * (q + 1) + j) = S 259 (12 * (q + 1) + j) ∧ S' 260 (12 * (q + 1) + j) = S 260 (12 * (q + 1) + j)) (h1 : ∀ j : Nat, j < 12 → S 256 (12 * (q + 1) + j) = 0 → (j : Int) < S 262 q → S' 201 (S 257 (12 * (q + 1) + j)) = S 201 (S 257 (12 * (q + 1) + j))) (hv : ∀ t ρ, rowSeen S' 0 t ρ ↔ rowSeen S 0 t ρ) : VwC S' q w M := by
  obtain ⟨n, L, a, b, c, d⟩ := h
  have n12 := a.1.2
  have nq := a.1.1
  exact ⟨n, L, a.of h2 (fun j hj => ho j (by omega)) (fun j hj h0 => scM_4 (a.sc hj h0) hs hs' h4 (h1 j (by omega) h0 (by omega)) (fun ρ => hv _ ρ)), b, c, d⟩
theorem rowSeen_of {t : Int} {ρ : Rw4} {o : Int} (h8 : S' 100 8 = S 100 8) (hv : ∀ o, 209 ≤ o → o ≤ 213 → S' o = S o) : rowSeen S' o t ρ ↔ rowSeen S o t ρ := by
  unfold rowSeen
  rw [h8, hv 209 (by decide) (by decide), hv 210 (by decide) (by decide), hv 211 (by decide) (by decide), hv 212 (by decide) (by decide), hv 213 (by decide) (by decide)]
/-- what is being built, while tables come -/
theorem TrR.frm2 {q : Nat} (h : TrR I S q n) (hI : ∀ o, q ≤ o → o < q + 10 → I' o = I o) (hS : ∀ o, 254 ≤ o → o ≤ 260 → S' o = S o) (h2 : ∀ t, 0 ≤ t → t < S 100 0 → S' 201 t = S 201 t) (h1 : S 100 0 ≤ S' 100 0 ∧ S' 100 51 = S 100 51 ∧ S' 100 52 = S 100 52 ∧ S' 100 55 = S 100 55) : TrR I' S' q n := by
  obtain ⟨⟨a1Z, a2, a3, a4⟩, bZ, ⟨c1Z, c2Z⟩, ⟨d1Z, d2Z⟩, e1Z, e2Z, e3Z, e4Z, e5Z⟩ := h
  obtain ⟨t0Z, t1Z, t2Z, t3Z⟩ := h1
  have smZ : OpSame S' S 0 0 n := fun j _ => by
    rw [hS 256 (by decide) (by decide), hS 257 (by decide) (by decide), hS 258 (by decide) (by decide), hS 259 (by decide) (by decide), hS 260 (by decide) (by decide)]
    exact ⟨rfl, rfl, rfl, rfl, rfl⟩
  have wnZ := smZ.ws bZ h2 n (Nat.le_refl _)
  have rn := smZ.rt n (Nat.le_refl _)
  have i0Z := hI q (by omega) (by omega)
  have i5Z := hI (q + 5) (by omega) (by omega)
  have i9Z := hI (q + 9) (by omega) (by omega)
  have su : QuSame I' I q n := by
    unfold QuSame
    rw [i0Z, i5Z, hI (q + 3) (by omega) (by omega), hI (q + 4) (by omega) (by omega), hI (q + 6) (by omega) (by omega), hI (q + 7) (by omega) (by omega)]
    exact ⟨rfl, fun k _ => ⟨⟨rfl, rfl, rfl, rfl⟩, fun j _ _ => rfl⟩⟩
  refine ⟨⟨t2Z.trans a1Z, by rw [i0Z]; exact a2, by rw [i0Z, t3Z]; exact a3, by rw [i0Z, t1Z]; exact a4⟩, smZ.qv bZ h2 t0Z, ⟨c1Z.of su smZ bZ h2, c2Z.of su smZ⟩, ⟨by rw [t1Z, wnZ]; exact d1Z, by rw [t3Z, wnZ]; exact d2Z⟩, by rw [rn, wnZ]; exact e1Z, ?_, ?_, ?_, ?_⟩
  · rw [wnZ, t1Z, hS 254 (by decide) (by decide)]; exact e2Z
  · rw [rn, wnZ, t1Z, i9Z, i5Z]; exact e3Z
  · rw [i9Z]; exact e4Z
  · rw [hS 254 (by decide) (by decide)]; exact e5Z
/-- the engine -/
def EgR (c : Nat) (K : KT) (P : PT) (I S : IT) (n N g lq : Nat) (lv mv : Nat → Nat) (q : Int) : Prop := (CB K P I n N g lq lv mv ∧ ER I S n N g lv mv q) ∧ (ZI c (-1) S ∧ mNext S = -1 ∧ S 100 16 ≤ c) ∧ (∀ j, j < n → I (tX j) 14 + 5 * mM S n + 25 * (60 - n) ≤ 12 * c + 1620) ∧ FreeT K I n ∧ FreeL P 12100 lq
/-- the draft -/
def DrR (I S : IT) : Prop := DrE I S ∧ 0 ≤ S 100 37 ∧ S 100 37 ≤ 4
/-- queries -/
def QyR (K : KT) (P : PT) (I S : IT) (nq lqq tn : Nat) : Prop := (QnL K P I nq lqq ∧ S 100 61 = nq) ∧ QsR I S nq ∧ (P 1000 10 = some (qX nq) ∧ QuW K P (qX nq) ∧ TrR I S (qX nq) tn) ∧ (FreeQ K P I (nq + 1) ∧ FreeL P 12200 lqq) ∧ QB S ∧ ∀ z, S 260 z = 0 ∨ S 260 z = 1
/-- views -/
def VwI (K : KT) (P : PT) (I S : IT) (nq nv l3 l4 : Nat) : Prop := (VnL K P I S nv l3 l4 ∧ S 100 68 = nv) ∧ VwR I S nq nv ∧ FreeV K I nv ∧ FreeL P 12300 l3 ∧ FreeL P 12400 l4
/-- the evaluator, and what ran last -/
def EvI2 (K : KT) (P : PT) (I S : IT) (w : Nat) (M : List (List Int)) : Prop := EvW K P ∧ RelR I 1416 1417 w M ∧ (S 100 77 = M.length ∧ S 100 78 = w) ∧ (w ≤ 10 ∧ M.length ≤ 512) ∧ ∀ a b : Int, 0 ≤ a → a < M.length → 0 ≤ b → b < w → S 276 (w * a + b) = I 1417 (w * a + b)
/-- the planner -/
def PnI (c : Nat) (I S T : IT) (nq : Nat) : Prop := (PlR I S ∧ PlV I) ∧ PnR I S nq ∧ (∀ k, 0 ≤ T 287 k ∧ T 287 k ≤ 10) ∧ (∀ k, 0 ≤ S 292 k ∧ S 292 k ≤ 8) ∧ (0 ≤ S 100 67 ∧ S 100 67 ≤ c) ∧ (∀ y, 0 ≤ S 265 y ∧ S 265 y ≤ 3) ∧ (∀ y, (nq : Int) ≤ y → y < 20 → S 263 y = 0) ∧ I (qX nq) 9 = 0
/-- each of them, where its own names and numbers stay -/
theorem DrR.frm (h : DrR I S) (e : I' 1000 9 = I 1000 9 ∧ I' 1009 = I 1009) (s : S' 238 = S 238 ∧ S' 100 37 = S 100 37) : DrR I' S' := by
  obtain ⟨⟨a, b⟩, d⟩ := h
  unfold DrR DrE
  rw [e.1, e.2, s.1, s.2]
  exact ⟨⟨a, b⟩, d⟩
theorem FreeQ.frm {m : Nat} (h : FreeQ K P I m) (e : ∀ o, 10000 ≤ o → o < 11000 → K' o = K o ∧ I' o = I o) : FreeQ K' P' I' m := fun j j0 j1 a ha => by
  have x : 10000 ≤ qX j + a ∧ qX j + a < 11000 := by unfold qX; omega
  obtain ⟨e1, e2⟩ := e _ x.1 x.2
  rw [e1, e2]
  exact h j j0 j1 a ha
theorem FreeL.frm {b l : Nat} (h : FreeL P b l) (e : ∀ o, b ≤ o → o < b + 20 → P' o = P o) : FreeL P' b l := fun j i j0 j1 => by
  rw [e (b + j) (by omega) (by omega)]
  exact h j i j0 j1
theorem FreeV.frm {m : Nat} (h : FreeV K I m) (e : ∀ o, 11000 ≤ o → o < 11400 → K' o = K o ∧ I' o = I o) : FreeV K' I' m := fun j j0 j1 a ha => by
  have x : 11000 ≤ vX j + a ∧ vX j + a < 11400 := by unfold vX; omega
  obtain ⟨e1, e2⟩ := e _ x.1 x.2
  rw [e1, e2]
  exact h j j0 j1 a ha
theorem FreeT.frm (h : FreeT K I n) (e : ∀ o, 2000 ≤ o → o < 10000 → K' o = K o ∧ I' o = I o) : FreeT K' I' n := fun j j0 j1 a ha => by
  have x : 2000 ≤ tX j + a ∧ tX j + a < 10000 := by unfold tX; omega
  obtain ⟨e1, e2⟩ := e _ x.1 x.2
  rw [e1, e2]
  exact h j j0 j1 a ha
theorem QB.of (h : QB S) (e1 : ∀ y, (y = 51 ∨ y = 52 ∨ y = 55 ∨ y = 61) → S' 100 y = S 100 y) (e2 : S' 254 = S 254) (e3 : S' 262 = S 262) : QB S' := by
  unfold QB at *
  rw [e1 51 (by omega), e1 52 (by omega), e1 55 (by omega), e1 61 (by omega), e2, e3]
  exact h
/-- names of queries, views, their lists -/
theorem QyR.frm (h : QyR K P I S nq lqq tn) (e : ∀ o, nQv o → K' o = K o ∧ P' o = P o ∧ I' o = I o) (e10 : P' 1000 10 = P 1000 10) (hS : ∀ o, 254 ≤ o → o ≤ 262 → S' o = S o) (h2 : ∀ t, 0 ≤ t → t < S 100 0 → S' 201 t = S 201 t) (h0 : S 100 0 ≤ S' 100 0) (h1 : ∀ y, (y = 51 ∨ y = 52 ∨ y = 55 ∨ y = 61) → S' 100 y = S 100 y) : QyR K' P' I' S' nq lqq tn := by
  obtain ⟨⟨a1, a2⟩, b, ⟨c1, c2, c3⟩, ⟨d1, d2⟩, f, g⟩ := h
  have n20 := a1.2.1
  have eI : ∀ o, nQv o → I' o = I o := fun o ho => (e o ho).2.2
  have x : 10000 ≤ qX nq ∧ qX nq + 32 ≤ 11000 := by unfold qX; omega
  refine ⟨⟨a1.frm (fun o ho => ⟨(e o ho).1, (e o ho).2.1⟩) ⟨eI 1480 (by unfold nQv; omega), eI 999 (by unfold nQv; omega), fun o o0 o1 => eI o (by unfold nQv; omega)⟩, (h1 61 (by omega)).trans a2⟩, b.of (fun j hj => ?_) (fun o k o0 o1 _ => by rw [hS o (by omega) o1]) h2 h0, ⟨e10.trans c1, c2.fr2 (fun a ha => (e _ (by unfold nQv; omega)).1) (e _ (by unfold nQv; omega)).2.1, c3.frm2 (fun o o0 o1 => eI o (by unfold nQv; omega)) (fun o o0 o1 => hS o o0 (by omega)) h2 ⟨h0, h1 51 (by omega), h1 52 (by omega), h1 55 (by omega)⟩⟩, ⟨d1.frm (fun o o0 o1 => ⟨(e o (by unfold nQv; omega)).1, eI o (by unfold nQv; omega)⟩), d2.frm (fun o o0 o1 => (e o (by unfold nQv; omega)).2.1)⟩, f.of h1 (hS 254 (by decide) (by decide)) (hS 262 (by decide) (by decide)), by rw [hS 260 (by decide) (by decide)]; exact g⟩
  have xj : 10000 ≤ qX j ∧ qX j + 32 ≤ 11000 := by unfold qX; omega
  unfold QuSame
  rw [eI (qX j) (by unfold nQv; omega), eI (qX j + 3) (by unfold nQv; omega), eI (qX j + 4) (by unfold nQv; omega), eI (qX j + 5) (by unfold nQv; omega), eI (qX j + 6) (by unfold nQv; omega), eI (qX j + 7) (by unfold nQv; omega)]
  exact ⟨rfl, fun k _ => ⟨⟨rfl, rfl, rfl, rfl⟩, fun _ _ _ => rfl⟩⟩
/-- what views hang on, among the reference's numbers -/
def VwS (S S' : IT) : Prop := (SSch S ∧ SSch S') ∧ St4 S S' ∧ (∀ o, 256 ≤ o → o ≤ 262 → S' o = S o) ∧ S' 269 = S 269 ∧ S' 100 68 = S 100 68 ∧ (∀ t, 0 ≤ t → t < S 100 0 → S' 201 t = S 201 t) ∧ ∀ t ρ, rowSeen S' 0 t ρ ↔ rowSeen S 0 t ρ
theorem VwR.of (h : VwR I S nq nv) (hq : QsR I S nq) (hv6 : nv ≤ 6) (hS : VwS S S') (hI : ∀ o, 11000 ≤ o → o < 11400 → I' o = I o) : VwR I' S' nq nv := fun j hj => by
  obtain ⟨⟨hs, hs'⟩, h4, hO, h9, -, h1, hv⟩ := hS
  obtain ⟨⟨a, b⟩, w, M, cc, d⟩ := h j hj
  have x : 11000 ≤ vX j ∧ vX j + 2 ≤ 11400 := by unfold vX; omega
  rw [h9]
  refine ⟨⟨a, ?_⟩, w, M, cc.of hs hs' h4 (by rw [hO 262 (by decide) (by decide)]) (fun i _ => ?_) (fun i hi h0 hi2 => ?_) hv, d.fr (hI _ x.1 (by omega)) (hI _ (by omega) (by omega))⟩
  · unfold mVw mVwG mInner at *
    rw [hO 262 (by decide) (by decide), hO 256 (by decide) (by decide), hO 257 (by decide) (by decide), hO 258 (by decide) (by decide)]
    exact b
  · rw [hO 256 (by decide) (by decide), hO 257 (by decide) (by decide), hO 258 (by decide) (by decide), hO 259 (by decide) (by decide), hO 260 (by decide) (by decide)]
    exact ⟨rfl, rfl, rfl, rfl, rfl⟩
  · obtain ⟨n, w', c', ⟨q1, -⟩, q2, -, -, -⟩ := hq (S 269 j).toNat (by omega)
    have ej : (((S 269 j).toNat : Nat) : Int) = S 269 j := by omega
    rw [ej] at q1 q2
    have := ((q2.2 i (by omega)).2.1 h0).1
    exact h1 _ this.1 this.2
theorem VwI.frm (h : VwI K P I S nq nv l3 l4) (hQ : QnL K P I nq lqq) (hq : QsR I S nq) (hS : VwS S S') (e : ∀ o, nQv o → K' o = K o ∧ P' o = P o ∧ I' o = I o) : VwI K' P' I' S' nq nv l3 l4 := by
  obtain ⟨⟨a1, a2⟩, b, d, f, g⟩ := h
  have eI : ∀ o, nQv o → I' o = I o := fun o ho => (e o ho).2.2
  refine ⟨⟨a1.frm hQ hS.2.2.2.1 (fun j hj => (b j hj).1.1) (fun o ho => ⟨(e o ho).1, (e o ho).2.1⟩) ⟨eI 1512 (by unfold nQv; omega), eI 1544 (by unfold nQv; omega), eI 999 (by unfold nQv; omega), fun o o0 o1 => eI o (by unfold nQv; omega)⟩, hS.2.2.2.2.1.trans a2⟩, b.of hq a1.2.1 hS (fun o o0 o1 => eI o (by unfold nQv; omega)), d.frm (fun o o0 o1 => ⟨(e o (by unfold nQv; omega)).1, eI o (by unfold nQv; omega)⟩), f.frm (fun o o0 o1 => (e o (by unfold nQv; omega)).2.1), g.frm (fun o o0 o1 => (e o (by unfold nQv; omega)).2.1)⟩
theorem EvI2.frm (h : EvI2 K P I S w M) (e : ∀ o, nEv o → K' o = K o ∧ P' o = P o) (eI : I' 1416 = I 1416 ∧ I' 1417 = I 1417) (hS : S' 276 = S 276 ∧ S' 100 77 = S 100 77 ∧ S' 100 78 = S 100 78) : EvI2 K' P' I' S' w M := by
  obtain ⟨a, b, ⟨d1, d2⟩, f, g⟩ := h
  refine ⟨a.frm e, b.fr eI.1 eI.2, ⟨hS.2.1.trans d1, hS.2.2.trans d2⟩, f, ?_⟩
  rw [hS.1, eI.2]
  exact g
theorem PnI.frm (h : PnI c I S T nq) (hq : nq ≤ 20) (hI : ∀ o, (1384 ≤ o ∧ o ≤ 1397) ∨ (10000 ≤ o ∧ o < 11000) → I' o = I o) (hS : ∀ o, (263 ≤ o ∧ o ≤ 266) ∨ o = 291 ∨ o = 292 → S' o = S o) (h67 : S' 100 67 = S 100 67) (hT : T' 287 = T 287) : PnI (c + 1) I' S' T' nq := by
  obtain ⟨⟨a1, a2⟩, ⟨b1, b2⟩, d, f, g, i, i1, i2⟩ := h
  refine ⟨⟨?_, ?_⟩, ⟨fun j hj => ?_, ?_⟩, by rw [hT]; exact d, by rw [hS 292 (by omega)]; exact f, by rw [h67]; omega, by rw [hS 265 (by omega)]; exact i, by rw [hS 263 (by omega)]; exact i1, by rw [hI (qX nq) (by unfold qX; omega)]; exact i2⟩
  · unfold PlR at *
    rw [hI 1385 (by omega), hI 1386 (by omega), hS 291 (by omega), hS 292 (by omega)]
    exact a1
  · unfold PlV at *
    rw [hI 1390 (by omega), hI 1393 (by omega)]
    exact a2
  · have x : 10000 ≤ qX j ∧ qX j + 32 ≤ 11000 := by unfold qX; omega
    rw [hI (qX j) (by omega), hI (qX j + 13) (by omega), hS 263 (by omega), hS 264 (by omega), hS 265 (by omega), hS 266 (by omega)]
    exact b1 j hj
  · rw [hI 1384 (by omega), h67]; exact b2
end
