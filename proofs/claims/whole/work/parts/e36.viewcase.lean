/-! view: the case of the law -/
section
variable {K K' : KT} {P P' : PT} {J J' I I' I1 S0 S1 S S' T U X Y : IT} {c cs ns n N N' g g' lq lq' nq lqq tn nv l3 l4 l3' l4' w w' n' i y k z t : Nat} {lv mv lv' mv' : Nat → Nat} {q q' x : Int} {M M' LL : List (List Int)} {L : Nat} {xs : Int → Int} {p1 p2 p3 p4 p5 : Int}
/-- between two calls, behind one that made a view -/
theorem view_lr (eg : EgR c K P I S0 n N g lq lv mv q) (qz : QzR c n nq tn S0 q) (qy : QyR K P I S0 nq lqq tn) (vw : VwI K P I S0 nq nv l3 l4) (ev : EvI2 K P I S0 w M) (pn : PnI c I S0 X nq) (rm : RmR c g n nq nv lq lqq lv mv cs ns) (dr : DrR I S0) (hy : y < nq) (hvw : mVw S0 y)
    (fS : ∀ (o : Nat) (z : Int), ¬ (o = 269 ∧ z = nv) → ¬ (o = 100 ∧ z = 68) → S1 o z = S0 o z) (f9 : S1 269 nv = y) (f8 : S1 100 68 = (nv : Int) + 1) (hV : VnL K' P' I' S1 (nv + 1) l3' l4') (eE : EvW K' P') (hc : VwC S0 y w' M' ∧ RelR I' (vX nv) (vX nv + 1) w' M') (hf : FreeV K' I' (nv + 1)) (hl : FreeL P' 12300 l3' ∧ FreeL P' 12400 l4') (hF : ∀ o, ¬ nEv o → o ≠ vX nv → o ≠ vX nv + 1 → ¬ lsN 12300 1512 o → ¬ lsN 12400 1544 o → K' o = K o ∧ P' o = P o ∧ I' o = I o) (hC : ClW K' P') : LR (c + 1) K' P' I' S1 X (cs + 24) (ns + 8400) ∧ S1 100 93 = S0 100 93 := by
  have bb := eg.1
  obtain ⟨b1, b2⟩ := bb
  obtain ⟨⟨a1, a2⟩, a3, ⟨a4, a5, a6⟩, ⟨a7, a8⟩, a9, a10⟩ := qy
  have n20 := a1.2.1
  have n6 := hV.2.1
  have sm : ∀ o, (o < 1224 ∨ (1384 ≤ o ∧ o < 1512) ∨ (1513 ≤ o ∧ o < 1544) ∨ (1545 ≤ o ∧ o < 11000) ∨ (11192 ≤ o ∧ o < 12300)) → K' o = K o ∧ P' o = P o ∧ I' o = I o := fun o ho => hF o (by unfold nEv; omega) (by unfold vX; omega) (by unfold vX; omega) (by unfold lsN; omega) (by unfold lsN; omega)
  have fu : ∀ o, o ≠ 269 → o ≠ 100 → S1 o = S0 o := fun o a b => funext (fun z => fS o z (by omega) (by omega))
  have f1 : ∀ z, z ≠ 68 → S1 100 z = S0 100 z := fun z a => fS 100 z (by omega) (by omega)
  have f9o : ∀ j : Int, j ≠ nv → S1 269 j = S0 269 j := fun j hj => fS 269 j (by omega) (by omega)
  have s0 := f1 0 (by decide)
  have hs' : SSch S1 := b2.sch.2.of (fun o z ho => fS o z (by omega) (by omega))
  have qw : ∀ j, j < nq → QuW K' P' (qX j) := fun j hj => (a1.2.2 j hj).2.fr2 (fun a ha => (sm _ (by unfold qX; omega)).1) (sm _ (by unfold qX; omega)).2.1
  have ld := ld_in (b := 12200) a1.1.2.2.1
  have hdZ : P' (ldn 12200 lqq) = P (ldn 12200 lqq) := (sm _ (by omega)).2.1
  have hQL : QnL K' P' I' nq lqq := by
    refine ⟨a1.1.fr (fun x hx => sm x (by omega)) (fun j y j0 j1 hy => ?_), n20, fun j hj => ⟨by rw [hdZ]; exact (a1.2.2 j hj).1, qw j hj⟩⟩
    have := (a1.2.2 j.toNat (by omega)).1
    rw [show ((j.toNat : Nat) : Int) = j by omega, hy] at this
    rw [Option.some.inj this]
    exact ⟨0, (qw j.toNat (by omega)).k⟩
  have qs : ∀ j, j < nq → QuSame I' I (qX j) 12 := fun j hj => by
    have es : ∀ a, a < 32 → I' (qX j + a) = I (qX j + a) := fun a x0 => (sm _ (by unfold qX; omega)).2.2
    have e0 : I' (qX j) = I (qX j) := es 0 (by decide)
    unfold QuSame
    rw [e0, es 3 (by decide), es 4 (by decide), es 5 (by decide), es 6 (by decide), es 7 (by decide)]
    exact ⟨rfl, fun k _ => ⟨⟨rfl, rfl, rfl, rfl⟩, fun _ _ _ => rfl⟩⟩
  have k1 := sm 1000 (by omega)
  have r1 : QyR K' P' I' S1 nq lqq tn := ⟨⟨hQL, (f1 61 (by decide)).trans a2⟩, a3.of qs (fun o z x0 x1 _ => by rw [fu o (by omega) (by omega)]) (fun t _ _ => by rw [fu 201 (by decide) (by decide)]) (by rw [s0]; exact Int.le_refl _), ⟨by rw [k1.2.1]; exact a4, a5.fr2 (fun a ha => (sm _ (by unfold qX; omega)).1) (sm _ (by unfold qX; omega)).2.1, a6.frm2 (fun o x0 x1 => (sm o (by unfold qX at *; omega)).2.2) (fun o x0 x1 => fu o (by omega) (by omega)) (fun t _ _ => by rw [fu 201 (by decide) (by decide)]) ⟨by rw [s0]; exact Int.le_refl _, f1 51 (by decide), f1 52 (by decide), f1 55 (by decide)⟩⟩, ⟨a7.frm (fun o x0 x1 => ⟨(sm o (by omega)).1, (sm o (by omega)).2.2⟩), a8.frm (fun o x0 x1 => (sm o (by omega)).2.1)⟩, a9.of (fun z hz => f1 z (by omega)) (fu 254 (by decide) (by decide)) (fu 262 (by decide) (by decide)), by rw [fu 260 (by decide) (by decide)]; exact a10⟩
  obtain ⟨⟨v1, v2⟩, v3, v4, v5, v6⟩ := vw
  have vc : ∀ {Q : Int} {w1 : Nat} {M1 : List (List Int)}, VwC S0 Q w1 M1 → VwC S1 Q w1 M1 := fun h => h.of b2.sch.2 hs' (St4.of (fu 214 (by decide) (by decide)) (fu 215 (by decide) (by decide))) (by rw [fu 262 (by decide) (by decide)]) (fun i _ => by rw [fu 256 (by decide) (by decide), fu 257 (by decide) (by decide), fu 258 (by decide) (by decide), fu 259 (by decide) (by decide), fu 260 (by decide) (by decide)]; exact ⟨rfl, rfl, rfl, rfl, rfl⟩) (fun i _ _ _ => by rw [fu 201 (by decide) (by decide)]) (fun t ρ => rowSeen_of (f1 8 (by decide)) (fun o x0 x1 => fu o (by omega) (by omega)))
  have r2 : VwI K' P' I' S1 nq (nv + 1) l3' l4' := by
    refine ⟨⟨hV, by rw [f8]; omega⟩, fun j hj => ?_, hf, hl.1, hl.2⟩
    by_cases e : j = nv
    · subst e
      rw [f9]
      exact ⟨⟨⟨by omega, by omega⟩, mVw_of hvw (fun o x0 x1 => fu o (by omega) (by omega))⟩, w', M', vc hc.1, hc.2⟩
    · obtain ⟨⟨a, b⟩, w1, M1, cc, d⟩ := v3 j (by omega)
      rw [f9o j (by omega)]
      have g1 := (hF (vX j) (by unfold nEv vX; omega) (by unfold vX; omega) (by unfold vX; omega) (by unfold lsN vX; omega) (by unfold lsN vX; omega)).2.2
      have g2 := (hF (vX j + 1) (by unfold nEv vX; omega) (by unfold vX; omega) (by unfold vX; omega) (by unfold lsN vX; omega) (by unfold lsN vX; omega)).2.2
      exact ⟨⟨a, mVw_of b (fun o x0 x1 => fu o (by omega) (by omega))⟩, w1, M1, vc cc, d.fr g1 g2⟩
  obtain ⟨e1, e2, e3, e4, e5⟩ := ev
  have r3 : EvI2 K' P' I' S1 w M := ⟨eE, e2.fr (sm 1416 (by omega)).2.2 (sm 1417 (by omega)).2.2, ⟨(f1 77 (by decide)).trans e3.1, (f1 78 (by decide)).trans e3.2⟩, e4, by rw [fu 276 (by decide) (by decide), (sm 1417 (by omega)).2.2]; exact e5⟩
  have r4 : PnI (c + 1) I' S1 X nq := pn.frm n20 (fun o ho => (sm o (by omega)).2.2) (fun o ho => fu o (by omega) (by omega)) (f1 67 (by decide)) rfl
  refine ⟨⟨n, N, g, lq, lv, mv, q, nq, lqq, tn, nv + 1, l3', l4', w, M, eg.frm hC (fun o ho => sm o (by omega)) (fun o z ho => fS o z (by unfold erM at ho; omega) (by unfold erM at ho; omega)) (by rw [f1 37 (by decide)]; omega) ⟨Int.le_refl _, b2.rd.2.2⟩, ?_, dr.frm ⟨by rw [k1.2.2], (sm 1009 (by omega)).2.2⟩ ⟨fu 238 (by decide) (by decide), f1 37 (by decide)⟩, r1, r2, r3, r4, ?_⟩, f1 93 (by decide)⟩
  · unfold QzR at *
    rw [s0]
    omega
  · unfold RmR at *
    omega
theorem case_view (h : LI c L xs K P J I cs ns) (c5 : c < 512) : CaseC c L xs m_Law_view [vR (some 1000), vI p1, vR (some 50)] m_Model_view [vR (some 100), vI p1] K P J I cs ns := by
  obtain ⟨k1, k2⟩ := h.k1000
  have hM := h.1.1.1.rs
  have rm0 := h.2.room (by omega)
  obtain ⟨S0, hS0⟩ : ∃ S0, S0 = up2 (mS I) 100 93 0 := ⟨_, rfl⟩
  have hl : LR c K P I S0 (rsI RefN J) cs ns := by rw [hS0]; exact h.2.u93
  have sy : ∀ o y, o ≠ 100 ∨ y ≠ 93 → S0 o y = mS I o y := fun o y a => by rw [hS0]; exact sx o y a
  obtain ⟨n, N, g, lq, lv, mv, q, nq, lqq, tn, nv, l3, l4, w, M, eg, qz, dr, qy, vw, ev, pn, rm⟩ := hl
  obtain ⟨b1, b2⟩ := id eg.1
  have hC := b1.c
  have hb := hb_i (z := p1) hb_1
  have eh := ez_2 (a := eIOO) (b := eISE) (x := 1) (y := 2) (by decide) (by decide)
  have s61 := qy.1.2
  have c61 := sy 100 61 (Or.inr (by decide))
  have s68 := vw.1.2
  have c68 := sy 100 68 (Or.inr (by decide))
  have n20 := qy.1.1.2.1
  have n6 := vw.1.1.2.1
  have q62 := qy.2.2.2.2.1.2.2.2.2.2
  have rf := sp_Model_view (J := rsI RefN J) (I := mS I) (y := p1) hM (by omega) (by omega) (fun q => by rw [← sy 262 q (Or.inl (by decide))]; exact q62 q)
  by_cases hc : 0 ≤ p1 ∧ p1 < nq
  · obtain ⟨y, hy⟩ : ∃ y : Nat, p1 = y := ⟨p1.toNat, by omega⟩
    subst hy
    have hq : y < nq := by omega
    have n1 : ¬ bI (0 ≤ (y : Int) ∧ (y : Int) < mS I 100 61) = 0 := by rw [bI1 ⟨hc.1, by omega⟩]; decide
    obtain ⟨n', w', c', ⟨e62, m1⟩, hqv, -, hqr, -⟩ := qy.2.1 y hq
    have eq := vw_eq rfl hqv hqr e62
    have hc0 : 0 ≤ I (qX y) 0 ∧ I (qX y) 0 ≤ 12 := by
      have a := hqr.1
      have b := hqv.1
      omega
    have mw : mVw S0 y ↔ mVw (mS I) y := ⟨fun a => mVw_of a (fun o _ _ => funext (fun z => (sy o z (Or.inl (by omega))).symm)), fun a => mVw_of a (fun o _ _ => funext (fun z => sy o z (Or.inl (by omega))))⟩
    by_cases h0 : mS I 100 68 < 6 ∧ bI (mVw (mS I) y) ≠ 0
    · have cd : cd_Model_view (mS I) y = 0 := (if_neg n1).trans (if_pos h0)
      have hvw : mVw S0 y := mw.mpr (bNe.mp h0.2)
      have sp := view_run2 (J := J) hC ev.1 (⟨b2.sch, b2.st.1, b2.st.2.1⟩ : StV I S0) qy.2.1 qy.1.1 vw.1.1 hq hvw (fun j hj => (vw.2.1 j hj).1.1) s68 hc0 (eq.mp hvw) (by omega) vw.2.2.1 vw.2.2.2.1 vw.2.2.2.2
      have spE := sp.toE.room (R' := ({ frames := 14, cells := 603072 - cs, slots := 7207018 - ns, locals := 600 } : Room)) (by show 12 ≤ 14; omega) (by show 420 ≤ 600; omega) (by show 24 ≤ 603072 - cs; omega) (by show 8400 ≤ 7207018 - ns; omega)
      have x5 : ∀ o, o < 1000 → ¬ nEv o ∧ o ≠ vX nv ∧ o ≠ vX nv + 1 ∧ ¬ lsN 12300 1512 o ∧ ¬ lsN 12400 1544 o := fun o ho => by unfold nEv vX lsN; omega
      have sp2 : Sp m_Model_view false (rmv 12 400) (ex (rsK RefN K) (rsP RefN P) (rsI RefN J) (f_Model_view y S0).1 (.inl (some (vI (f_Model_view y S0).2)))) (rsK RefN K) (rsP RefN P) (rsI RefN J) (mS I) [vR (some 100), vI (y : Int)] := by
        rw [hS0]
        exact ref_0 rf cd (by decide) (by decide)
      have fS : ∀ (o : Nat) (z : Int), ¬ (o = 269 ∧ z = nv) → ¬ (o = 100 ∧ z = 68) → (f_Model_view y S0).1 o z = S0 o z := fun o z a b => (up2_x b).trans (up2_x (by rw [s68]; exact a))
      have f8 : (f_Model_view y S0).1 100 68 = (nv : Int) + 1 := by
        unfold f_Model_view
        dsimp only
        rw [up2_eq, s68]
      have f9 : (f_Model_view y S0).1 269 nv = y := by
        unfold f_Model_view
        dsimp only
        rw [up2_o _ _ _ _ (by decide), s68, up2_eq]
      refine case_mk h.1 (by omega) hb (lw_view k1 k2 spE (fun k z E K1 P1 J1 I1 hq => ?_) (fun k z r K1 P1 J1 I1 hq => ?_)) eh (fun q hq K1 P1 J1 I1 k z hQ => ?_) (fun v K1 P1 J1 I1 k z hQ => ?_)
      · obtain ⟨⟨⟨-, e1, -⟩, -⟩, -⟩ := hq
        cases e1
      · obtain ⟨⟨⟨-, e1, l3', l4', w1, M1, -, -, -, -, -, hF⟩, -⟩, ek, en⟩ := hq
        injection e1 with e1
        have ek2 : k = 24 := ek
        have en2 : z = 8400 := en
        obtain ⟨x1, x2, x3, x4, x6⟩ := x5 50 (by decide)
        exact ⟨⟨_, e1⟩, (hF 50 x1 x2 x3 x4 x6).1.trans k2, by omega, by omega⟩
      · obtain ⟨⟨⟨-, e1, -⟩, -⟩, -⟩ := hQ
        cases e1
      · obtain ⟨⟨⟨eJ, e1, l3', l4', w1, M1, hV, eE, hcc, hf, hl, hF⟩, hC'⟩, ek, en⟩ := hQ
        have ek2 : k = 24 := ek
        have en2 : z = 8400 := en
        subst ek2; subst en2
        injection e1 with e1
        injection e1 with e1
        injection e1 with e1
        have lr := view_lr (X := rsI RefN J) eg qz qy vw ev pn rm dr hq hvw fS f9 f8 hV eE hcc hf hl hF hC'
        refine ⟨eJ, fun o ho => by
          obtain ⟨x1, x2, x3, x4, x6⟩ := x5 o ho
          exact hF o x1 x2 x3 x4 x6, _, sp2, fun r K2 P2 J2 I2 hq => ?_⟩
        obtain ⟨q1, q2, q3, q4, q5⟩ := hq
        subst q4
        subst q5
        refine ⟨q2, q3, _, q1, by rw [lr.2, hS0, up2_eq], fun _ => ?_, lr.1⟩
        rw [e1]
        show (nv : Int) = S0 100 68 + 1 - 1
        omega
    · have cd : cd_Model_view (mS I) y = 2 := (if_neg n1).trans (if_neg h0)
      exact case_ex (es := [(eIOO, 1), (eISE, 2)]) h c5 hb eh (es_2 nIS) (fun _ s x r => lw_view k1 k2 s x r) (view_no2 (p := mVw S0 y) hC qy.1.1 vw.1.1 hq hc0 eq (fun u => h0 ⟨by omega, bNe.mpr (mw.mp u.1)⟩)) (by decide) (by decide) (Or.inl ⟨(eISE, 2), _, List.mem_cons_of_mem _ (List.mem_singleton.mpr rfl), rfl, ref_1 rf cd (by decide) (by decide) (by decide)⟩)
  · have cd : cd_Model_view (mS I) p1 = 1 := if_pos (bI0 (fun u => hc (by omega)))
    exact case_ex (es := [(eIOO, 1), (eISE, 2)]) h c5 hb eh (es_2 nIS) (fun _ s x r => lw_view k1 k2 s x r) (view_no1 hC qy.1.1 hc) (by decide) (by decide) (Or.inl ⟨(eIOO, 1), _, List.mem_cons_self .., rfl, ref_1 rf cd (by decide) (by decide) (by decide)⟩)
end
