/-! run: the case of the law -/
section
variable {K K' : KT} {P P' : PT} {J J' I I' I1 S0 S1 S S' T U X Y : IT} {c cs ns n N N' g g' lq lq' nq lqq tn nv l3 l4 w w' n' i y k z t : Nat} {lv mv lv' mv' : Nat → Nat} {q q' x : Int} {M LL : List (List Int)} {L : Nat} {xs : Int → Int} {p1 p2 p3 p4 p5 : Int}
/-- a query reads a table -/
theorem qv_tab {e : Nat × Nat} (h : QV S x n) (hw : wsT S x n = [e]) : 1 ≤ n ∧ 1 ≤ S 100 0 := by
  have n1 : 1 ≤ n := by
    cases n with
    | zero =>
      have : wsT S x 0 = [] := rfl
      rw [this] at hw
      cases hw
    | succ m => omega
  obtain ⟨⟨o0, o7⟩, a0, a1, a4, a5, a6, a7⟩ := h.2 0 (by omega)
  have e0 : wsT S x 0 = [] := rfl
  rw [e0] at a1 a4 a5 a6 a7
  generalize S 256 (x + ((0 : Nat) : Int)) = op at *
  refine ⟨n1, ?_⟩
  by_cases z0 : op = 0
  · have := (a0 z0).1
    omega
  · by_cases z1 : op ≤ 3
    · obtain ⟨_, _, u, -⟩ := a1 z0 z1
      cases u
    · by_cases z4 : op = 4
      · obtain ⟨_, _, _, u, -⟩ := a4 z4
        cases u
      · by_cases z5 : op = 5
        · obtain ⟨_, _, u, -⟩ := a5 z5
          cases u
        · by_cases z6 : op = 6
          · obtain ⟨_, _, u, -⟩ := a6 z6
            cases u
          · obtain ⟨_, _, _, u, -⟩ := a7 (by omega)
            cases u
/-- what the reference's run leaves -/
theorem runE_at (hU : FnR S U (S 223 i) (S 220 i) (y : Int) n' w' LL) : (∀ (o : Nat) (z : Int), ¬ (233 ≤ o ∧ o ≤ 236) → ¬ (270 ≤ o ∧ o ≤ 274) → o ≠ 276 → ¬ (o = 100 ∧ (z = 71 ∨ z = 75 ∨ z = 77 ∨ z = 78 ∨ z = 93)) → runE U i y n' w' LL o z = S o z) ∧ (∀ o, 233 ≤ o → o ≤ 236 → runE U i y n' w' LL o = mRa S i (12 * ((y : Int) + 1)) n' n' o) ∧ runE U i y n' w' LL 100 77 = (LL.length : Int) ∧ runE U i y n' w' LL 100 78 = (w' : Int) ∧ runE U i y n' w' LL 100 93 = 0 ∧ ∀ z, 0 ≤ z → z < (LL.length : Int) * (w' : Int) → runE U i y n' w' LL 276 z = U 270 z := by
  have v : ∀ (o : Nat) (z : Int), ¬ (233 ≤ o ∧ o ≤ 236) → ¬ (o = 100 ∧ z = 93) → runV U i y n' o z = U o z := fun o z a b => (mRa_fr n' o z (by omega)).trans (up2_x b)
  have v1 : ∀ (o : Nat) (z : Int), o ≠ 276 → ¬ (o = 100 ∧ (z = 77 ∨ z = 78)) → runE U i y n' w' LL o z = runV U i y n' o z := fun o z a b => (cpyI_out (Or.inl a)).trans ((up2_x (by omega)).trans (up2_x (by omega)))
  refine ⟨fun o z a b d e => ?_, fun o a b => ?_, ?_, ?_, ?_, fun z z0 z1 => ?_⟩
  · rw [v1 o z d (by omega), v o z a (by omega)]
    exact hU.2 o z (by omega) (by omega) (by omega) (by omega) (by omega)
  · have e1 : runE U i y n' w' LL o = runV U i y n' o := funext (fun z => v1 o z (by omega) (by omega))
    rw [e1]
    exact mRa_c (A := up2 U 100 93 0) (B := S) (fun o a b => funext (fun z => (up2_o _ _ _ _ (by omega)).trans (hU.g o z (by omega) (by omega)))) (fun o a b => funext (fun z => (up2_o _ _ _ _ (by omega)).trans (hU.g o z (by omega) (by omega)))) n' o a b
  · exact (cpyI_out (Or.inl (by decide))).trans ((up2_k _ _ _ _ (by decide)).trans (up2_eq _ _ _ _))
  · exact (cpyI_out (Or.inl (by decide))).trans (up2_eq _ _ _ _)
  · rw [v1 100 93 (by decide) (by omega)]
    exact (mRa_fr n' 100 93 (by decide)).trans (up2_eq _ _ _ _)
  · refine (cpyI_in z0 (by omega)).trans ?_
    rw [up2_o _ _ _ _ (by decide), up2_o _ _ _ _ (by decide), v 270 _ (by omega) (by omega), show (0 : Int) + (z - 0) = z by omega]
/-- between two calls, behind a run -/
theorem run_lr (eg : EgR c K P I S n N g lq lv mv q) (qz : QzR c n nq tn S q) (qy : QyR K P I S nq lqq tn) (vw : VwI K P I S nq nv l3 l4) (pn : PnI c I S X nq) (rm : RmR c g n nq nv lq lqq lv mv cs ns) (dr : DrR I S) (hi : i < n) (hU : FnR S U (S 223 i) (S 220 i) (y : Int) n' w' LL) (hqv : QV S (12 * ((y : Int) + 1)) n') (fb : w' ≤ 10 ∧ LL.length ≤ 512) (fr : ∀ r ∈ LL, r.length = w') (hT : T = runE U i y n' w' LL)
    (hB : CB K' P' I' n N g lq lv' mv) (hE : ER I' (mRa S i (12 * ((y : Int) + 1)) n' n') n N g lv' mv (q + 4)) (eE : EvW K' P') (rl : RelR I' 1416 1417 w' M) (hM : M.Perm LL ∧ Ris M) (hr : k + pC g n lv mv = pC g n lv' mv ∧ z + pS g n lv mv = pS g n lv' mv) (hc : ∀ j, j < n → I' (tX j) 14 ≤ I (tX j) 14 + 12) (hF : ∀ o, ¬ nTx i o → ¬ nEv o → o ≠ 1416 → o ≠ 1417 → K' o = K o ∧ P' o = P o ∧ I' o = I o) (q48 : q + 4 ≤ 2048) : LR (c + 1) K' P' I' T X (cs + k) (ns + z) ∧ T 100 93 = 0 := by
  obtain ⟨⟨b1, b2⟩, ⟨z1, z2, z3⟩, d, f, g1⟩ := eg
  have n60 := b1.e.2.1
  obtain ⟨tF, tR, t77, t78, t93, tV⟩ := runE_at hU
  rw [← hT] at tF tR t77 t78 t93 tV
  have fu : ∀ o, ¬ (233 ≤ o ∧ o ≤ 236) → ¬ (270 ≤ o ∧ o ≤ 274) → o ≠ 276 → o ≠ 100 → T o = S o := fun o a b e e' => funext (fun z => tF o z a b e (by omega))
  have f1 : ∀ z, ¬ (z = 71 ∨ z = 75 ∨ z = 77 ∨ z = 78 ∨ z = 93) → T 100 z = S 100 z := fun z a => tF 100 z (by decide) (by decide) (by decide) (by omega)
  have le := hM.1.length_eq
  have hE2 : ER I' T n N g lv' mv (q + 4) := hE.same hB.lev hB.g10 (fun _ _ => rfl) (fun o z ho => by
    unfold erM at ho
    by_cases e : 233 ≤ o ∧ o ≤ 236
    · rw [tR o e.1 e.2]
    · rw [tF o z e (by omega) (by omega) (by omega)]
      exact (mRa_fr n' o z (by omega)).symm) ⟨Int.le_refl _, q48⟩
  obtain ⟨m3, m6⟩ := mRa_oth (S := S) (i := (i : Int)) (x := 12 * ((y : Int) + 1)) (m := n') n' (fun j hj h0 => by
    have a := ((hqv.2 j hj).2.1 h0).1
    have b := b2.mb.tab
    omega)
  have hd : RdZ T := by
    obtain ⟨r1, r2⟩ := z1.2.2.2.1
    have c19 := b2.cnt.1
    have t19 := f1 19 (by decide)
    refine ⟨fun j hj => ?_, fun j j0 j1 t t0 t1 => ?_⟩
    · rw [t19] at hj
      rw [tR 233 (by decide) (by decide), m3 j (fun e => hj (by omega))]
      exact r1 j hj
    · rw [t19] at j0
      rw [tR 236 (by decide) (by decide), m6 _ (fun t' u0 u1 => by omega)]
      exact r2 j j0 j1 t t0 t1
  have zC : ZI (c + 1) (-1) T := z1.read (fun o ho => fu o (by omega) (by omega) (by omega) (by omega)) (fun z hz => f1 z (by omega)) (by rw [f1 37 (by decide)]; exact Nat.le_refl _) hd
  have e21 := fu 221 (by decide) (by decide) (by decide) (by decide)
  have e25 := fu 225 (by decide) (by decide) (by decide) (by decide)
  have x0 : ∀ o, (o < 2000 ∨ 10000 ≤ o) → ¬ nTx i o := fun o ho => by unfold nTx tX; omega
  have kq : ∀ o, nQv o → K' o = K o ∧ P' o = P o ∧ I' o = I o := fun o ho => hF o (x0 o (by unfold nQv at ho; omega)) (by unfold nQv at ho; unfold nEv; omega) (by unfold nQv at ho; omega) (by unfold nQv at ho; omega)
  have k1 := hF 1000 (x0 _ (by omega)) (by unfold nEv; omega) (by decide) (by decide)
  have k9 := hF 1009 (x0 _ (by omega)) (by unfold nEv; omega) (by decide) (by decide)
  have so := seg_one hU hM fr
  rw [← le] at so
  refine ⟨⟨n, N, g, lq, lv', mv, q + 4, nq, lqq, tn, nv, l3, l4, w', M, ⟨⟨hB, hE2⟩, ⟨zC, (mNext_of e21 e25 (f1 19 (by decide))).trans z2, by rw [f1 16 (by decide)]; omega⟩, fun j hj => ?_, f.frm2 n60 (fun o o0 o1 => ?_), g1.frm (fun o o0 o1 => (hF o (x0 o (by omega)) (by unfold nEv; omega) (by omega) (by omega)).2.1)⟩, ?_, dr.frm ⟨by rw [k1.2.2], k9.2.2⟩ ⟨fu 238 (by decide) (by decide) (by decide) (by decide), f1 37 (by decide)⟩, qy.frm kq (by rw [k1.2.1]) (fun o o0 o1 => fu o (by omega) (by omega) (by omega) (by omega)) (fun t _ _ => by rw [fu 201 (by decide) (by decide) (by decide) (by decide)]) (by rw [f1 0 (by decide)]; exact Int.le_refl _) (fun z hz => f1 z (by omega)), vw.frm qy.1.1 qy.2.1 ⟨⟨b2.sch.2, hE2.sch.2⟩, St4.of (fu 214 (by decide) (by decide) (by decide) (by decide)) (fu 215 (by decide) (by decide) (by decide) (by decide)), fun o o0 o1 => fu o (by omega) (by omega) (by omega) (by omega), fu 269 (by decide) (by decide) (by decide) (by decide), f1 68 (by decide), fun t _ _ => by rw [fu 201 (by decide) (by decide) (by decide) (by decide)], fun t ρ => rowSeen_of (f1 8 (by decide)) (fun o o0 o1 => fu o (by omega) (by omega) (by omega) (by omega))⟩ kq, ⟨eE, rl, ⟨by rw [t77, le], t78⟩, ⟨fb.1, by omega⟩, fun a b a0 a1 b0 b1' => ?_⟩, pn.frm qy.1.1.2.1 (fun o ho => (hF o (x0 o (by omega)) (by unfold nEv; omega) (by omega) (by omega)).2.2) (fun o ho => fu o (by omega) (by omega) (by omega) (by omega)) (f1 67 (by decide)) rfl, ?_⟩, t93⟩
  · rw [mM_of e21 e25]
    have a := hc j hj
    have b := d j hj
    omega
  · have x : ¬ nTx i o := by unfold nTx tX; omega
    have a := hF o x (by unfold nEv; omega) (by omega) (by omega)
    exact ⟨a.1, a.2.2⟩
  · unfold QzR at *
    rw [f1 0 (by decide)]
    omega
  · rw [← seg_at rl so ⟨a0, a1⟩ ⟨b0, b1'⟩]
    have m1 := mulNN (w := (w' : Int)) (k := a) (by omega) a0
    have m2 := mulStep (w := (w' : Int)) (k := a) (n := (LL.length : Int)) (by omega) (by omega)
    refine tV _ (by omega) ?_
    rw [Int.mul_comm (LL.length : Int)]
    omega
  · unfold RmR at *
    omega
theorem case_run (h : LI c L xs K P J I cs ns) (c5 : c < 512) : CaseC c L xs m_Law_run [vR (some 1000), vI p1, vI p2, vR (some 50)] m_Model_run [vR (some 100), vI p1, vI p2] K P J I cs ns := by
  obtain ⟨k1, k2⟩ := h.k1000
  have hM := h.1.1.1.rs
  have rm0 := h.2.room (by omega)
  obtain ⟨n, N, g, lq, lv, mv, q, nq, lqq, tn, nv, l3, l4, w, M, eg, qz, dr, qy, vw, ev, pn, rm⟩ := id h.2
  obtain ⟨b1, b2⟩ := id eg.1
  have hb := hb_i (z := p2) (hb_i (z := p1) hb_1)
  have eh := ez_3 (a := eIOO) (b := eISE) (d := eARE) (x := 1) (y := 2) (z := 3) (by decide) (by decide) (by decide)
  have nIR : eIOO ≠ eARE := by decide
  have nSR : eISE ≠ eARE := by decide
  have eu := es_3 (x := 1) (y := 2) (z := 3) nIS nIR nSR
  have s19 := b2.cnt.1
  have s61 := qy.1.2
  have hz : I 1480 2 = (nq : Int) := qy.1.1.1.2.2.2.1.1
  have n20 := qy.1.1.2.1
  by_cases hc : (0 ≤ p1 ∧ p1 < n) ∧ 0 ≤ p2 ∧ p2 < nq
  · obtain ⟨i, hi⟩ : ∃ i : Nat, p1 = i := ⟨p1.toNat, by omega⟩
    obtain ⟨y, hy⟩ : ∃ y : Nat, p2 = y := ⟨p2.toNat, by omega⟩
    subst hi
    subst hy
    have hn : i < n := by omega
    have hq : y < nq := by omega
    have t4 := (b2.tx i hn).1.2.2.2.1
    by_cases h0 : mS I 221 i = 0
    · obtain ⟨n', w', c', LL, ⟨fn, fr⟩, hqv, se⟩ := tx_eval (J := J) b1 b2 hn (by omega) ev.1 qy.2.1 qy.1.1 hq
      have tab := (qv_tab hqv.1 hqv.2.2.2).2
      have rd := b2.rd.1 i hn
      have qb : q + 4 ≤ 2048 ∧ mS I 233 i ≤ 2030 := by
        unfold QzR at qz
        split at qz <;> omega
      have ref := sp_Model_run (J := rsI RefN J) (I := mS I) (i := (i : Int)) (q := (y : Int)) (n := n') (w := w') (L := LL) hM b2.mb (by omega) (fun _ _ _ => fn) ⟨rd.1, qb.2⟩
      have fb := fn.b
      by_cases hF : evF (mS I) (mS I 223 i) (mS I 220 i) (12 * ((y : Int) + 1)) n'
      · have sp := run_fail (J := J) b1 b2 hn h0 qy.1.1 hq hF se
        refine case_ev (R0 := .inr eARE) (es := [(eIOO, 1), (eISE, 2), (eARE, 3)]) h c5 hb eh eu (fun s x r => lw_run k1 k2 s x r) sp (by decide) (by decide) ref (by decide) (by decide) (Or.inl ⟨(eARE, 3), List.mem_cons_of_mem _ (List.mem_cons_of_mem _ (List.mem_singleton.mpr rfl)), rfl, fun v' U hφ => ?_⟩)
        rcases hφ with ⟨no, -⟩ | ⟨-, no, -⟩ | ⟨-, -, U2, hU2, ⟨-, -, hU⟩ | ⟨no, -⟩⟩
        · exact absurd (by omega) no
        · exact absurd h0 no
        · rw [hU]; exact ⟨up2_eq _ _ _ _, (FnF.of hU2).u⟩
        · exact absurd hF no
      · obtain ⟨hX, hd, hX2⟩ := LR.hx eg qy vw rm c5
        have m0 := (mM_rg (S := mS I) (n := n)).2.2
        have d := eg.2.2.1
        have n60 := b1.e.2.1
        have sp := run_ex (J := J) (X := 603072 - cs) (Y := 7207018 - ns) b1 b2 hn h0 ev.1 qy.1.1 hq qb.1 (fun j hj => by have := d j hj; omega) hX fn hqv hF se
        have x5 : ∀ o, o < 1000 → ¬ nTx i o ∧ ¬ nEv o := fun o ho => by unfold nTx tX nEv; omega
        refine case_mk h.1 (by omega) hb (lw_run k1 k2 (sp.room (by show 13 ≤ 14; omega) (by show 560 ≤ 600; omega) (Nat.le_refl _) (Nat.le_refl _)) (fun k z E K' P' J' I' hq => ?_) (fun k z r K' P' J' I' hq => ?_)) eh (fun q hq K' P' J' I' k z hQ => ?_) (fun v K' P' J' I' k z hQ => ?_)
        · obtain ⟨-, M', lv', e, -⟩ := hq
          cases e
        · obtain ⟨-, M', lv', e, ⟨e2, -⟩, -, -, e5, e6, e7⟩ := hq
          injection e with e
          have po := e2.pot (fun j hj => by
            have a := e6 j hj
            have b := d j hj
            omega)
          exact ⟨⟨_, e⟩, (e7 50 (x5 50 (by decide)).1 (x5 50 (by decide)).2 (by decide) (by decide)).1.trans k2, by omega, by omega⟩
        · obtain ⟨-, M', lv', e, -⟩ := hQ
          cases e
        · obtain ⟨eJ, M', lv', e, ⟨e2, e3⟩, e4, ⟨rl, pm⟩, e5, e6, e7⟩ := hQ
          injection e with e
          injection e with e
          injection e with e
          refine ⟨eJ, fun o ho => e7 o (x5 o ho).1 (x5 o ho).2 (by omega) (by omega), _, ref.room (R' := rmv 12 400) (by decide) (by decide) (Nat.le_refl _) (Nat.le_refl _), fun r K1 P1 J1 I1 hq1 => ?_⟩
          obtain ⟨a1, a2, a3, v', a4, a5⟩ := hq1
          subst a3
          rcases a5 with ⟨no, -⟩ | ⟨-, no, -⟩ | ⟨-, -, U2, hU2, ⟨no, -⟩ | ⟨-, hv, hU⟩⟩
          · exact absurd (by omega) no
          · exact absurd h0 no
          · exact absurd no hF
          · have lr := run_lr eg qz qy vw pn rm dr hn hU2 hqv.1 fb fr hU e2 e3 e4 rl pm e5 e6 e7 qb.1
            exact ⟨a1, a2, v', a4, lr.2, fun _ => by rw [e, hv, pm.1.length_eq], lr.1⟩
    · have ref := sp_Model_runN (J := rsI RefN J) (I := mS I) (i := (i : Int)) (q := (y : Int)) hM b2.mb (by omega) (fun z => h0 z.2.2)
      refine case_fn (es := [(eIOO, 1), (eISE, 2), (eARE, 3)]) h c5 hb eh eu (fun s x r => lw_run k1 k2 s x r) (run_no2 b1.c b1.e hz hn ⟨by omega, by omega⟩ (by rw [t4]; exact h0)) (by decide) (by decide) ref (by decide) (by decide) (Or.inl ⟨(eISE, 2), List.mem_cons_of_mem _ (List.mem_cons_self ..), rfl, fun v' U hφ => ?_⟩)
      rcases hφ with ⟨no, -⟩ | ⟨-, -, -, hU⟩ | ⟨-, no, -⟩
      · exact absurd (by omega) no
      · rw [hU]; exact ⟨up2_eq _ _ _ _, FnF.u0⟩
      · exact absurd no h0
  · have ref := sp_Model_runN (J := rsI RefN J) (I := mS I) (i := p1) (q := p2) hM b2.mb (by omega) (fun z => hc (by omega))
    refine case_fn (es := [(eIOO, 1), (eISE, 2), (eARE, 3)]) h c5 hb eh eu (fun s x r => lw_run k1 k2 s x r) (run_no1 b1.c b1.e hz hc) (by decide) (by decide) ref (by decide) (by decide) (Or.inl ⟨(eIOO, 1), List.mem_cons_self .., rfl, fun v' U hφ => ?_⟩)
    rcases hφ with ⟨-, -, hU⟩ | ⟨y, -⟩ | ⟨y, -⟩
    · rw [hU]; exact ⟨up2_eq _ _ _ _, FnF.u0⟩
    · exact absurd (by omega) hc
    · exact absurd (by omega) hc
end
