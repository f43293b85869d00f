/-! class and reference between two calls: the whole -/
section
variable {K K' : KT} {P P' : PT} {I I' S S' T T' : IT} {c n N g lq nq lqq nv l3 l4 tn w k : Nat} {lv mv : Nat → Nat} {q q' : Int} {M : List (List Int)}
theorem mNext_of (e21 : S' 221 = S 221) (e25 : S' 225 = S 225) (e19 : S' 100 19 = S 100 19) : mNext S' = mNext S := by
  have e : mFreed S' = mFreed S := funext (fun j => by unfold mFreed; rw [e21, e25])
  unfold mNext
  rw [e, e19]
theorem mM_of (e21 : S' 221 = S 221) (e25 : S' 225 = S 225) : mM S' n = mM S n := by
  have e : mFreed S' = mFreed S := funext (fun j => by unfold mFreed; rw [e21, e25])
  unfold mM opC fdC
  rw [e, e21]
theorem EgR.frm (h : EgR c K P I S n N g lq lv mv q) (hC : ClW K' P') (hF : ∀ o, o = 999 ∨ (1032 ≤ o ∧ o < 1224) ∨ o = 1448 ∨ (2000 ≤ o ∧ o < 10000) ∨ (12000 ≤ o ∧ o < 12200) → K' o = K o ∧ P' o = P o ∧ I' o = I o) (hS : ∀ o y, erM o y → S' o y = S o y) (e37 : (S' 100 37).toNat ≤ (S 100 37).toNat + 1) (hq : q ≤ q' ∧ q' ≤ 2048) : EgR (c + 1) K' P' I' S' n N g lq lv mv q' := by
  obtain ⟨⟨b1, b2⟩, ⟨z1, z2, z3⟩, d, f, g1⟩ := h
  have fu : ∀ o, ((200 < o ∧ o < 219) ∨ (220 ≤ o ∧ o ≤ 236) ∨ (245 < o ∧ o < 250)) → S' o = S o := fun o ho => funext (fun y => hS o y (by unfold erM; omega))
  have f1 : ∀ y, (y = 0 ∨ y = 8 ∨ y = 16 ∨ y = 19 ∨ y = 44 ∨ y = 45) → S' 100 y = S 100 y := fun y hy => hS 100 y (by unfold erM; omega)
  refine ⟨⟨b1.out hC (fun o ho => hF o (by omega)), b2.same b1.lev b1.g10 (fun o ho => (hF o (by unfold erC erI at ho; omega)).2.2) hS hq⟩, ⟨z1.same (fun o ho => fu o (by omega)) (fun y hy => f1 y (by omega)) (by omega), (mNext_of (fu 221 (by omega)) (fu 225 (by omega)) (f1 19 (by omega))).trans z2, by rw [f1 16 (by omega)]; omega⟩, fun j hj => ?_, f.frm (fun o o0 o1 => ⟨(hF o (by omega)).1, (hF o (by omega)).2.2⟩), g1.frm (fun o o0 o1 => (hF o (by omega)).2.1)⟩
  have x : 2000 ≤ tX j ∧ tX j < 10000 := by have := b1.e.2.1; unfold tX; omega
  rw [(hF (tX j) (by omega)).2.2, mM_of (fu 221 (by omega)) (fu 225 (by omega))]
  have := d j hj
  omega
/-- cells and slots made so far -/
def RmR (c g n nq nv lq lqq : Nat) (lv mv : Nat → Nat) (cs ns : Nat) : Prop := cs ≤ 2000 + pC g n lv mv + 8 * n + 9 * nq + 24 * nv + lq + lqq + c ∧ ns ≤ 1600000 + pS g n lv mv + 240 * n + pl lq + 118 * nq + pl lqq + 8400 * nv + 6 * c
/-- calls that must have been made -/
def QzR (c n nq tn : Nat) (S : IT) (q : Int) : Prop := 4 * (n : Int) ≤ q ∧ q + 4 * S 100 0 + 8 * nq + (if tn = 0 then 0 else 4) ≤ 4 * c
/-- class and reference, c calls made -/
def LR (c : Nat) (K : KT) (P : PT) (I S T : IT) (cs ns : Nat) : Prop := ∃ (n N g lq : Nat) (lv mv : Nat → Nat) (q : Int) (nq lqq tn nv l3 l4 w : Nat) (M : List (List Int)), EgR c K P I S n N g lq lv mv q ∧ QzR c n nq tn S q ∧ DrR I S ∧ QyR K P I S nq lqq tn ∧ VwI K P I S nq nv l3 l4 ∧ EvI2 K P I S w M ∧ PnI c I S T nq ∧ RmR c g n nq nv lq lqq lv mv cs ns
/-- the class's numbers alone matter -/
theorem LsV.frI {o b l m ci : Nat} (h : LsV K P I o b l m ci) (e : I' o = I o) : LsV K P I' o b l m ci := ⟨h.1, h.2.1, h.2.2.1, by rw [e]; exact h.2.2.2.1, h.2.2.2.2⟩
theorem CB.frI (h : CB K P I n N g lq lv mv) (e : ∀ o, 1000 ≤ o → I' o = I o) : CB K P I' n N g lq lv mv := by
  obtain ⟨a, ⟨b1, b2⟩, ⟨d1, d2, d3⟩, f⟩ := h
  have lev : ∀ j, j < n → lv j < 15 ∧ mv j < 15 := fun j hj => (d3 j hj).2.2.2.2.2
  refine ⟨a, ⟨b1, ?_⟩, ⟨d1.frI (e 1448 (by decide)), d2, d3⟩, fun j hj => ⟨(f j hj).1.fl (lev j hj) (fun o ho => e o (by unfold nTx tX at ho; omega)), ?_⟩⟩
  · unfold LgN at *
    rw [e 1192 (by decide)]; exact b2
  · rw [e (tX j) (by unfold tX; omega)]; exact (f j hj).2
theorem LR.frI {cs ns : Nat} (h : LR c K P I S T cs ns) (e : ∀ o, 1000 ≤ o → I' o = I o) : LR c K P I' S T cs ns := by
  obtain ⟨n, N, g, lq, lv, mv, q, nq, lqq, tn, nv, l3, l4, w, M, ⟨⟨b1, b2⟩, z, d, f, g1⟩, qz, dr, ⟨⟨q1, q2⟩, q3, ⟨q4, q5, q6⟩, ⟨q7, q8⟩, q9⟩, ⟨⟨v1, v2⟩, v3, v4, v5⟩, ⟨e1, e2, e3, e4, e5⟩, pn, rm⟩ := h
  have n20 := q1.2.1
  refine ⟨n, N, g, lq, lv, mv, q, nq, lqq, tn, nv, l3, l4, w, M, ⟨⟨b1.frI e, b2.same b1.lev b1.g10 (fun o ho => e o (by unfold erC erI at ho; omega)) (fun _ _ _ => rfl) ⟨Int.le_refl _, b2.rd.2.2⟩⟩, z, fun j hj => ?_, f.frm (fun o o0 _ => ⟨rfl, e o (by omega)⟩), g1⟩, qz, dr.frm ⟨by rw [e 1000 (by decide)], e 1009 (by decide)⟩ ⟨rfl, rfl⟩, ⟨⟨⟨q1.1.frI (e 1480 (by decide)), q1.2⟩, q2⟩, q3.frI n20 (fun o o0 _ => e o (by omega)), ⟨q4, q5, q6.frm (fun o o0 _ => e o (by unfold qX at o0; omega)) (fun _ _ _ => rfl) rfl ⟨rfl, rfl, rfl, rfl⟩⟩, ⟨q7.frm (fun o o0 _ => ⟨rfl, e o (by omega)⟩), q8⟩, q9⟩, ⟨⟨⟨⟨v1.1.1.frI (e 1512 (by decide)), v1.1.2.frI (e 1544 (by decide))⟩, v1.2⟩, v2⟩, fun j hj => ?_, v4.frm (fun o o0 _ => ⟨rfl, e o (by omega)⟩), v5⟩, ⟨e1, e2.fr (e 1416 (by decide)) (e 1417 (by decide)), e3, e4, by rw [e 1417 (by decide)]; exact e5⟩, ?_, rm⟩
  · rw [e (tX j) (by unfold tX; omega)]; exact d j hj
  · obtain ⟨a, w', M', vc, rr⟩ := v3 j hj
    exact ⟨a, w', M', vc, rr.fr (e _ (by unfold vX; omega)) (e _ (by unfold vX; omega))⟩
  · obtain ⟨⟨a1, a2⟩, ⟨p1, p2⟩, p3, p4, p5, p6, p7, p8⟩ := pn
    refine ⟨⟨?_, ?_⟩, ⟨fun j hj => ?_, ?_⟩, p3, p4, p5, p6, p7, by rw [e (qX nq) (by unfold qX; omega)]; exact p8⟩
    · unfold PlR at *
      rw [e 1385 (by decide), e 1386 (by decide)]; exact a1
    · unfold PlV at *
      rw [e 1390 (by decide), e 1393 (by decide)]; exact a2
    · rw [e (qX j) (by unfold qX; omega), e (qX j + 13) (by unfold qX; omega)]; exact p1 j hj
    · rw [e 1384 (by decide)]; exact p2
/-- a number that only tells what was thrown; exceptions that were made -/
theorem LR.tell {cs ns : Nat} {z : Int} {x y : Nat} (h : LR c K P I S T cs ns) (c5 : c < 512) (hx : x ≤ 1) (hy : y ≤ 6) : LR (c + 1) K P I (up2 S 100 93 z) T (cs + x) (ns + y) := by
  obtain ⟨n, N, g, lq, lv, mv, q, nq, lqq, tn, nv, l3, l4, w, M, eg, qz, dr, qy, vw, ev, pn, rm⟩ := h
  have fo : ∀ o, o ≠ 100 → up2 S 100 93 z o = S o := fun o ho => funext (fun y => up2_o _ _ _ _ ho)
  have f1 : ∀ y, y ≠ 93 → up2 S 100 93 z 100 y = S 100 y := fun y hy => up2_k _ _ _ _ hy
  have s0 := f1 0 (by decide)
  have hs := eg.1.2.sch.2
  have hs' : SSch (up2 S 100 93 z) := by
    unfold SSch at *
    rw [s0, f1 8 (by decide), fo 201 (by decide), fo 202 (by decide), fo 203 (by decide), fo 206 (by decide), fo 211 (by decide)]
    exact hs
  refine ⟨n, N, g, lq, lv, mv, q, nq, lqq, tn, nv, l3, l4, w, M, eg.frm eg.1.1.c (fun _ _ => ⟨rfl, rfl, rfl⟩) (fun o y ho => ?_) (by rw [f1 37 (by decide)]; omega) ⟨Int.le_refl _, eg.1.2.rd.2.2⟩, ?_, dr.frm ⟨rfl, rfl⟩ ⟨fo 238 (by decide), f1 37 (by decide)⟩, qy.frm (fun _ _ => ⟨rfl, rfl, rfl⟩) rfl (fun o o0 o1 => fo o (by omega)) (fun t _ _ => by rw [fo 201 (by decide)]) (by rw [s0]; exact Int.le_refl _) (fun y hy => f1 y (by omega)), vw.frm qy.1.1 qy.2.1 ⟨⟨hs, hs'⟩, ⟨fun k _ => by rw [fo 214 (by decide)], fun k _ => by rw [fo 215 (by decide)]⟩, fun o o0 o1 => fo o (by omega), fo 269 (by decide), f1 68 (by decide), fun t _ _ => by rw [fo 201 (by decide)], fun t ρ => rowSeen_of (f1 8 (by decide)) (fun o o0 o1 => fo o (by omega))⟩ (fun _ _ => ⟨rfl, rfl, rfl⟩), ev.frm (fun _ _ => ⟨rfl, rfl⟩) ⟨rfl, rfl⟩ ⟨fo 276 (by decide), f1 77 (by decide), f1 78 (by decide)⟩, pn.frm qy.1.1.2.1 (fun _ _ => rfl) (fun o ho => fo o (by omega)) (f1 67 (by decide)) rfl, ?_⟩
  · by_cases e : o = 100
    · subst e
      exact f1 y (by unfold erM at ho; omega)
    · rw [fo o e]
  · unfold QzR at *
    rw [s0]
    omega
  · unfold RmR at *
    omega
/-- a number that tells what was thrown last -/
theorem LR.u93 {cs ns : Nat} {z : Int} (h : LR c K P I S T cs ns) : LR c K P I (up2 S 100 93 z) T cs ns := by
  obtain ⟨n, N, g, lq, lv, mv, q, nq, lqq, tn, nv, l3, l4, w, M, ⟨⟨b1, b2⟩, ⟨z1, z2, z3⟩, d⟩, qz, dr, qy, vw, ev, ⟨⟨a1, a2⟩, ⟨p1, p2⟩, p3⟩, rm⟩ := h
  have fo : ∀ o, o ≠ 100 → up2 S 100 93 z o = S o := fun o ho => funext (fun y => up2_o _ _ _ _ ho)
  have f1 : ∀ y, y ≠ 93 → up2 S 100 93 z 100 y = S 100 y := fun y hy => up2_k _ _ _ _ hy
  have s0 := f1 0 (by decide)
  have hs := b2.sch.2
  have hs' : SSch (up2 S 100 93 z) := by
    unfold SSch at *
    rw [s0, f1 8 (by decide), fo 201 (by decide), fo 202 (by decide), fo 203 (by decide), fo 206 (by decide), fo 211 (by decide)]
    exact hs
  refine ⟨n, N, g, lq, lv, mv, q, nq, lqq, tn, nv, l3, l4, w, M, ⟨⟨b1, b2.same b1.lev b1.g10 (fun _ _ => rfl) (fun o y ho => ?_) ⟨Int.le_refl _, b2.rd.2.2⟩⟩, ⟨z1.same (fun o ho => fo o (by omega)) (fun y hy => f1 y (by omega)) (by rw [f1 37 (by decide)]; omega), (mNext_of (fo 221 (by decide)) (fo 225 (by decide)) (f1 19 (by decide))).trans z2, by rw [f1 16 (by decide)]; exact z3⟩, by rw [mM_of (fo 221 (by decide)) (fo 225 (by decide))]; exact d⟩, ?_, dr.frm ⟨rfl, rfl⟩ ⟨fo 238 (by decide), f1 37 (by decide)⟩, qy.frm (fun _ _ => ⟨rfl, rfl, rfl⟩) rfl (fun o o0 o1 => fo o (by omega)) (fun t _ _ => by rw [fo 201 (by decide)]) (by rw [s0]; exact Int.le_refl _) (fun y hy => f1 y (by omega)), vw.frm qy.1.1 qy.2.1 ⟨⟨hs, hs'⟩, ⟨fun k _ => by rw [fo 214 (by decide)], fun k _ => by rw [fo 215 (by decide)]⟩, fun o o0 o1 => fo o (by omega), fo 269 (by decide), f1 68 (by decide), fun t _ _ => by rw [fo 201 (by decide)], fun t ρ => rowSeen_of (f1 8 (by decide)) (fun o o0 o1 => fo o (by omega))⟩ (fun _ _ => ⟨rfl, rfl, rfl⟩), ev.frm (fun _ _ => ⟨rfl, rfl⟩) ⟨rfl, rfl⟩ ⟨fo 276 (by decide), f1 77 (by decide), f1 78 (by decide)⟩, ⟨⟨?_, a2⟩, ⟨?_, ?_⟩, ?_⟩, rm⟩
  · by_cases e : o = 100
    · subst e
      exact f1 y (by unfold erM at ho; omega)
    · rw [fo o e]
  · unfold QzR at *
    rw [s0]
    exact qz
  · unfold PlR at *
    rw [fo 291 (by decide), fo 292 (by decide)]; exact a1
  · rw [fo 263 (by decide), fo 264 (by decide), fo 265 (by decide), fo 266 (by decide)]; exact p1
  · rw [f1 67 (by decide)]; exact p2
  · rw [fo 292 (by decide), fo 265 (by decide), fo 263 (by decide), f1 67 (by decide)]; exact p3
end
