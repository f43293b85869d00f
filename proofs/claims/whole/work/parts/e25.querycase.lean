/-! query: the case of the law -/
section
variable {K K' : KT} {P P' : PT} {J J' I I' I1 S0 S1 S S' T U : IT} {c cs ns n N N' g g' lq lq' nq lqq tn tn' nv l l3 l4 w i k z x : Nat} {lv mv lv' mv' : Nat → Nat} {q q' : Int} {M : List (List Int)} {L : Nat} {xs : Int → Int} {p1 p2 p3 p4 p5 : Int}
/-- between two calls, behind one that made a query -/
theorem qry_lr (eg : EgR c K P I S0 n N g lq lv mv q) (qz : QzR c n nq tn S0 q) (qy : QyR K P I S0 nq lqq tn) (vw : VwI K P I S0 nq nv l3 l4) (ev : EvI2 K P I S0 w M) (pn : PnI c I S0 U nq) (rm : RmR c g n nq nv lq lqq lv mv cs ns) (dr : DrR I S0) (h20 : nq < 20) (h51 : S0 100 51 = 1)
    (hQL : QnL K' P' I' (nq + 1) l) (hC : ClW K' P') (hp' : P' 1000 10 = some (qX (nq + 1))) (hQ' : QuW K' P' (qX (nq + 1))) (hK' : FreeQ K' P' I' (nq + 2)) (hF' : FreeL P' 12200 l) (hcz : k + lqq = 8 + l ∧ z + pl lqq = 118 + pl l) (eI : ∀ o, o ≠ 1480 → I' o = I o) (eK : ∀ o, o ≠ 1000 → o ≠ 1480 → ¬ (12200 < o ∧ o < 12220) → ¬ (qX (nq + 1) ≤ o ∧ o < qX (nq + 1) + 32) → K' o = K o ∧ P' o = P o) : LR (c + 1) K' P' I' (mQry S0) U (cs + k) (ns + z) ∧ mQry S0 100 93 = S0 100 93 := by
  have bb := eg.1
  obtain ⟨b1, b2⟩ := bb
  obtain ⟨⟨a1, a2⟩, a3, ⟨a4, a5, tr⟩, ⟨a7, a8⟩, a9, a10⟩ := qy
  have n52 := tr.n52.1
  obtain ⟨m1, m2, m3, ⟨m51, m52, m55, m61⟩, mo, m62⟩ := mQryX (S := S0) rfl a2 n52
  have tn0 : tn ≠ 0 := fun e => by
    have u := tr.2.2.2.1.1
    rw [e] at u
    have : (wsT S0 0 0).length = 0 := rfl
    rw [this] at u
    omega
  have tn12 := tr.2.1.1
  have xq : qX (nq + 1) + 32 ≤ 10672 ∧ qX (nq + 1) = 10032 + 32 * nq := by unfold qX; omega
  have ek : ∀ o, o ≠ 1000 → o ≠ 1480 → ¬ (12200 < o ∧ o < 12220) → (o < 10032 + 32 * nq ∨ 10672 ≤ o) → K' o = K o ∧ P' o = P o ∧ I' o = I o := fun o a b d e => ⟨(eK o a b d (by omega)).1, (eK o a b d (by omega)).2, eI o b⟩
  have nz := a7 (nq + 1) (Nat.le_refl _) (by omega)
  have z0 : ∀ y, I' (qX (nq + 1)) y = 0 := fun y => by
    rw [eI _ (by omega)]
    exact (nz 0 (by decide)).2 y
  have z9 : ∀ y, I' (qX (nq + 1) + 9) y = 0 := fun y => by
    rw [eI _ (by omega)]
    exact (nz 9 (by decide)).2 y
  have f1 : ∀ y, y ≠ 51 → y ≠ 52 → y ≠ 55 → y ≠ 61 → mQry S0 100 y = S0 100 y := fun y a b d e => m3 y a b d e
  have fl : ∀ o, o < 256 → o ≠ 100 → mQry S0 o = S0 o := m1
  have fh : ∀ o, 263 ≤ o → mQry S0 o = S0 o := m2
  have s0 := f1 0 (by decide) (by decide) (by decide) (by decide)
  have hs' : SSch (mQry S0) := b2.sch.2.of (fun o y ho => by
    by_cases e : o = 100
    · subst e; exact f1 y (by omega) (by omega) (by omega) (by omega)
    · rw [fl o (by omega) e])
  have qs : ∀ j, j < nq + 1 → QuSame I' I (qX j) 12 := fun j hj => by
    have es : ∀ a, a < 32 → I' (qX j + a) = I (qX j + a) := fun a x0 => eI _ (by unfold qX; omega)
    have e0 : I' (qX j) = I (qX j) := es 0 (by decide)
    unfold QuSame
    rw [e0, es 3 (by decide), es 4 (by decide), es 5 (by decide), es 6 (by decide), es 7 (by decide)]
    exact ⟨rfl, fun k _ => ⟨⟨rfl, rfl, rfl, rfl⟩, fun _ _ _ => rfl⟩⟩
  have hqb : QB (mQry S0) := by
    obtain ⟨-, -, -, q4, q5, q6⟩ := a9
    refine ⟨by rw [m51]; decide, by rw [m52]; decide, by rw [m55]; decide, by rw [fl 254 (by decide) (by decide)]; exact q4, by rw [m61]; omega, fun y => ?_⟩
    rw [m62]
    split
    · omega
    · exact q6 y
  have r1 : QyR K' P' I' (mQry S0) (nq + 1) l 0 := ⟨⟨hQL, by rw [m61]; omega⟩, a3.add tr h51 a2 qs, ⟨hp', hQ', tr.next a2 ⟨z0 0, z0 1, z0 7⟩ (fun j => by rw [z9]; decide)⟩, ⟨hK', hF'⟩, hqb, fun y => by
    rw [mo 260 y (by decide) (by decide)]
    split
    · exact a10 _
    · exact a10 _⟩
  obtain ⟨⟨v1, v2⟩, v3, v4, v5, v6⟩ := vw
  have v1' := v1
  obtain ⟨⟨w1, w2⟩, w3, w4⟩ := v1'
  have e269 := fh 269 (by decide)
  have ld3 := ld_in (b := 12300) w1.2.2.1
  have ld4 := ld_in (b := 12400) w2.2.2.1
  have ln : ∀ o, (o = 999 ∨ (12300 ≤ o ∧ o < 12420)) → P' o = P o := fun o ho => (ek o (by omega) (by omega) (by omega) (by omega)).2.1
  have hd3 : P' (ldn 12300 l3) = P (ldn 12300 l3) := ln _ (by omega)
  have hd4 : P' (ldn 12400 l4) = P (ldn 12400 l4) := ln _ (by omega)
  have r2v : VnL K' P' I' (mQry S0) nv l3 l4 := by
    refine ⟨⟨w1.fr (fun x hx => ek x (by omega) (by omega) (by omega) (by omega)) (fun j y j0 j1 hy => ?_), w2.fr (fun x hx => ek x (by omega) (by omega) (by omega) (by omega)) (fun j y j0 j1 hy => ?_)⟩, w3, fun j hj => ⟨by rw [hd3, e269]; exact (w4 j hj).1, by rw [hd4]; exact (w4 j hj).2.1, ?_⟩⟩
    · have a := (w4 j.toNat (by omega)).1
      have b := (v3 j.toNat (by omega)).1.1
      rw [show ((j.toNat : Nat) : Int) = j by omega, hy] at a
      rw [show ((j.toNat : Nat) : Int) = j by omega] at b
      have ey := Option.some.inj a
      obtain ⟨u, hu⟩ := w1.2.2.2.2 j y j0 j1 hy
      exact ⟨u, (ek y (by rw [ey]; unfold qX; omega) (by rw [ey]; unfold qX; omega) (by rw [ey]; unfold qX; omega) (by rw [ey]; unfold qX; omega)).1.trans hu⟩
    · have a := (w4 j.toNat (by omega)).2.1
      rw [show ((j.toNat : Nat) : Int) = j by omega, hy] at a
      have ey := Option.some.inj a
      obtain ⟨u, hu⟩ := w2.2.2.2.2 j y j0 j1 hy
      exact ⟨u, (ek y (by rw [ey]; unfold vX; omega) (by rw [ey]; unfold vX; omega) (by rw [ey]; unfold vX; omega) (by rw [ey]; unfold vX; omega)).1.trans hu⟩
    · have a := (w4 j hj).2.2
      have e1 := ek (vX j) (by unfold vX; omega) (by unfold vX; omega) (by unfold vX; omega) (by unfold vX; omega)
      have e2 := ek (vX j + 1) (by unfold vX; omega) (by unfold vX; omega) (by unfold vX; omega) (by unfold vX; omega)
      unfold ReW at *
      rw [e1.1, e1.2.1, e2.1]
      exact a
  have vi : ∀ o, 11000 ≤ o → o < 12000 → K' o = K o ∧ I' o = I o := fun o x0 x1 => ⟨(ek o (by omega) (by omega) (by omega) (by omega)).1, eI o (by omega)⟩
  have r2 : VwI K' P' I' (mQry S0) (nq + 1) nv l3 l4 := by
    refine ⟨⟨r2v, (f1 68 (by decide) (by decide) (by decide) (by decide)).trans v2⟩, fun j hj => ?_, v4.frm (fun o x0 x1 => vi o (by omega) (by omega)), v5.frm (fun o x0 x1 => ln o (by omega)), v6.frm (fun o x0 x1 => ln o (by omega))⟩
    obtain ⟨⟨a, b⟩, w', M', cc, d⟩ := v3 j hj
    rw [e269]
    have e2 : mQry S0 262 (S0 269 j) = S0 262 (S0 269 j) := by rw [m62, if_neg (by omega)]
    have q6 := a9.2.2.2.2.2 (S0 269 j)
    have eo : ∀ (o : Nat) (k : Int), 256 ≤ o → o ≤ 260 → 0 ≤ k → k < 12 → mQry S0 o (12 * (S0 269 j + 1) + k) = S0 o (12 * (S0 269 j + 1) + k) := fun o k x0 x1 k0 k1 => by rw [mo o _ x0 x1, if_neg (by omega)]
    refine ⟨⟨⟨a.1, by omega⟩, fun k k0 k1 => ?_⟩, w', M', cc.of b2.sch.2 hs' (St4.of (fl 214 (by decide) (by decide)) (fl 215 (by decide) (by decide))) e2 (fun i hi => ⟨eo 256 i (by decide) (by decide) (by omega) (by omega), eo 257 i (by decide) (by decide) (by omega) (by omega), eo 258 i (by decide) (by decide) (by omega) (by omega), eo 259 i (by decide) (by decide) (by omega) (by omega), eo 260 i (by decide) (by decide) (by omega) (by omega)⟩) (fun i _ _ _ => by rw [fl 201 (by decide) (by decide)]) (fun t ρ => rowSeen_of (f1 8 (by decide) (by decide) (by decide) (by decide)) (fun o x0 x1 => fl o (by omega) (by omega))), d.fr (vi _ (by unfold vX; omega) (by unfold vX; omega)).2 (vi _ (by unfold vX; omega) (by unfold vX; omega)).2⟩
    rw [e2] at k1
    have g := b k k0 k1
    unfold mVwG mInner at *
    rw [e2, eo 256 k (by decide) (by decide) k0 (by omega), eo 257 k (by decide) (by decide) k0 (by omega), eo 258 k (by decide) (by decide) k0 (by omega)]
    exact g
  have r3 : EvI2 K' P' I' (mQry S0) w M := ev.frm (fun o ho => by
    have := ek o (by unfold nEv at ho; omega) (by unfold nEv at ho; omega) (by unfold nEv at ho; omega) (by unfold nEv at ho; omega)
    exact ⟨this.1, this.2.1⟩) ⟨eI 1416 (by decide), eI 1417 (by decide)⟩ ⟨fh 276 (by decide), f1 77 (by decide) (by decide) (by decide) (by decide), f1 78 (by decide) (by decide) (by decide) (by decide)⟩
  obtain ⟨⟨p1, p2⟩, ⟨p3, p4⟩, p5, p6, p7, p8, p9, p10⟩ := pn
  have r4 : PnI (c + 1) I' (mQry S0) U (nq + 1) := by
    refine ⟨⟨?_, ?_⟩, ⟨fun j hj => ?_, ?_⟩, p5, by rw [fh 292 (by decide)]; exact p6, by rw [f1 67 (by decide) (by decide) (by decide) (by decide)]; omega, by rw [fh 265 (by decide)]; exact p8, fun y y0 y1 => by rw [fh 263 (by decide)]; exact p9 y (by omega) y1, z0 9⟩
    · unfold PlR at *
      rw [eI 1385 (by decide), eI 1386 (by decide), fh 291 (by decide), fh 292 (by decide)]
      exact p1
    · unfold PlV at *
      rw [eI 1390 (by decide), eI 1393 (by decide)]
      exact p2
    · rw [eI (qX j) (by unfold qX; omega), eI (qX j + 13) (by unfold qX; omega), fh 263 (by decide), fh 264 (by decide), fh 265 (by decide), fh 266 (by decide)]
      by_cases e : j < nq
      · exact p3 j e
      · have e2 : j = nq := by omega
        subst e2
        have e63 := p9 (j : Int) (Int.le_refl _) (by omega)
        exact ⟨⟨Or.inl p10, fun _ => e63, fun _ => p10⟩, fun y => absurd p10 y⟩
    · rw [eI 1384 (by decide), f1 67 (by decide) (by decide) (by decide) (by decide)]; exact p4
  refine ⟨⟨n, N, g, lq, lv, mv, q, nq + 1, l, 0, nv, l3, l4, w, M, eg.frm hC (fun o ho => ek o (by omega) (by omega) (by omega) (by omega)) (fun o y ho => ?_) (by rw [f1 37 (by decide) (by decide) (by decide) (by decide)]; omega) ⟨Int.le_refl _, b2.rd.2.2⟩, ?_, dr.frm ⟨by rw [eI 1000 (by decide)], eI 1009 (by decide)⟩ ⟨fl 238 (by decide) (by decide), f1 37 (by decide) (by decide) (by decide) (by decide)⟩, r1, r2, r3, r4, ?_⟩, f1 93 (by decide) (by decide) (by decide) (by decide)⟩
  · unfold erM at ho
    by_cases e : o = 100
    · subst e; exact f1 y (by omega) (by omega) (by omega) (by omega)
    · rw [fl o (by omega) e]
  · unfold QzR at *
    rw [if_neg tn0] at qz
    rw [s0, if_pos rfl]
    omega
  · unfold RmR at *
    omega
theorem case_query (h : LI c L xs K P J I cs ns) (c5 : c < 512) : CaseC c L xs m_Law_query [vR (some 1000), vR (some 50)] m_Model_query [vR (some 100)] K P J I cs ns := by
  obtain ⟨k1, k2⟩ := h.k1000
  have hM := h.1.1.1.rs
  obtain ⟨S0, hS0⟩ : ∃ S0, S0 = up2 (mS I) 100 93 0 := ⟨_, rfl⟩
  have hl : LR c K P I S0 (rsI RefN J) cs ns := by rw [hS0]; exact h.2.u93
  have sy : ∀ o y, o ≠ 100 ∨ y ≠ 93 → S0 o y = mS I o y := fun o y a => by rw [hS0]; exact sx o y a
  obtain ⟨n, N, g, lq, lv, mv, q, nq, lqq, tn, nv, l3, l4, w, M, eg, qz, dr, qy, vw, ev, pn, rm⟩ := hl
  have hb := hb_1
  have eh := ez_1 (a := eISE) (x := 1) (by decide)
  obtain ⟨⟨hL, s61⟩, qs, ⟨hp, hQ, tr⟩, ⟨fq, fl⟩, qb, q6⟩ := id qy
  have hC := eg.1.1.c
  have n20 := hL.2.1
  have tr' : TrR I (mS I) (qX nq) tn := tr.frm (fun _ _ _ => rfl) (fun o o0 o1 => funext (fun y => (sy o y (Or.inl (by omega))).symm)) (funext (fun y => (sy 201 y (Or.inl (by decide))).symm)) ⟨(sy 100 0 (Or.inr (by decide))).symm, (sy 100 51 (Or.inr (by decide))).symm, (sy 100 52 (Or.inr (by decide))).symm, (sy 100 55 (Or.inr (by decide))).symm⟩
  have hq' : QB (mS I) := qb.of (fun y hy => (sy 100 y (Or.inr (by omega))).symm) (funext (fun y => (sy 254 y (Or.inl (by decide))).symm)) (funext (fun y => (sy 262 y (Or.inl (by decide))).symm))
  have q6' : ∀ z, mS I 260 z = 0 ∨ mS I 260 z = 1 := fun z => by rw [← sy 260 z (Or.inl (by decide))]; exact q6 z
  have s61' : mS I 100 61 = nq := (sy 100 61 (Or.inr (by decide))).symm.trans s61
  rcases query_cd tr' s61' n20 with ⟨cd, no⟩ | ⟨cd, a7, a20⟩
  · exact case_ex (es := [(eISE, 1)]) h c5 hb eh es_1 (fun _ s x r => lw_query k1 k2 s x r) (query_no1 hC hp hQ hL.1.2.2.2.1.1 no) (by decide) (by decide) (Or.inl ⟨(eISE, 1), _, List.mem_cons_self .., rfl, ref_1 (sp_Model_query (J := rsI RefN J) (I := mS I) hM hq' q6') cd (by decide) (by decide) (by decide)⟩)
  · obtain ⟨l, cc, zz, K', P', I', g1, g2, g3, g4, g5, g6, g7, g8, g9, g10, sp⟩ := query_ex (J := J) hC hp hQ hL fq fl a20 a7
    have h51 : S0 100 51 = 1 := by rw [← tr.n52.2.2.2]; exact a7
    have sp2 : Sp m_Model_query false (rmv 12 400) (ex (rsK RefN K) (rsP RefN P) (rsI RefN J) (mQry S0) (.inl (some (vI (S0 100 61 + 1 - 1))))) (rsK RefN K) (rsP RefN P) (rsI RefN J) (mS I) [vR (some 100)] := by
      rw [hS0]
      exact ref_0 (sp_Model_query (J := rsI RefN J) (I := mS I) hM hq' q6') cd (by decide) (by decide)
    rw [show S0 100 61 + 1 - 1 = ((nq + 1 : Nat) : Int) - 1 by omega] at sp2
    have lr := qry_lr (U := rsI RefN J) eg qz qy vw ev pn rm dr a20 h51 g1 g2 g3 g4 g5 g6 g7 g8 g9
    have l12 := g1.1.2.2.1
    have pb := pl_b l l12
    exact case_det (es := [(eISE, 1)]) (kk := cc) (nn := zz) h c5 hb eh (fun s x r => lw_query k1 k2 s x r) sp ⟨by show (12 : Nat) ≤ 14; decide, by show (400 : Nat) ≤ 600; decide, rfl, rfl⟩ (by omega) (by omega) (fun o ho => ⟨(g9 o (by omega) (by omega) (by omega) (by unfold qX; omega)).1, (g9 o (by omega) (by omega) (by omega) (by unfold qX; omega)).2, g8 o (by omega)⟩) sp2 (by rw [lr.2, hS0, up2_eq]) lr.1
end
