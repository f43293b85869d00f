/-! abort, commit: the cases of the law -/
section
variable {K K' : KT} {P P' : PT} {J J' I I' S0 T U : IT} {c cs ns n N N' g g' lq lq' n' nq lqq tn nv l3 l4 w i k z : Nat} {lv mv lv' mv' : Nat → Nat} {q q' : Int} {M : List (List Int)} {L : Nat} {xs : Int → Int} {p1 : Int}
/-- the same as case_mk; names that aren't there are blank -/
theorem case_mk2 {W M2 : MD} {as bs : List AV} {es : List (String × Int)} {Q0 : PE} (hL : LwK K P I L xs) (hcs : cs ≤ 603072 ∧ ns ≤ 7207018) (hb : ∀ v ∈ bs, ∀ q, v = vR (some q) → RefN q) (sp : SpE W true ({ frames := 15, cells := 603072 - cs, slots := 7207018 - ns, locals := 660 } : Room) (LwE es Q0) K P J I as) (h0 : ∀ q, q ∈ es → q.2 ≠ 0)
    (hx : ∀ q, q ∈ es → ∀ K' P' J' I' k n, Q0 (.inr q.1) K' P' J' I' k n → J' = J ∧ OweR c M2 bs K P I (mS I) (rsI RefN J) cs ns q.2 0 K' P' I' k n)
    (hr : ∀ v K' P' J' I' k n, Q0 (.inl (some (vI v))) K' P' J' I' k n → (∀ o, K' o = none → ∀ z, I' o z = 0) → J' = J ∧ OweR c M2 bs K P I (mS I) (rsI RefN J) cs ns 0 v K' P' I' k n) : CaseC c L xs W as M2 bs K P J I cs ns := by
  refine ⟨hcs, LwE es Q0, sp.noX (fun E K' P' J' I' k n hq => ?_), fun r K' P' J' I' k n hq hwf => ?_⟩
  · rcases hq with ⟨q, -, -, e⟩ | ⟨v, J0, -, -, e⟩
    · cases e
    · cases e
  · rcases hq with ⟨q, hm, hq, e⟩ | ⟨v, J0, hq, eJ, e⟩
    · obtain ⟨e1, ow⟩ := hx q hm K' P' J' I' k n hq
      subst e1
      refine ⟨q.2, ?_, aft_mk hL hb ow ⟨fun _ _ => rfl, fun z => absurd z (h0 q hm)⟩ hwf⟩
      injection e
    · obtain ⟨e1, ow⟩ := hr v K' P' J0 I' k n hq (fun o ho => (hwf.2.2.2 o ho).1)
      subst e1
      refine ⟨0, ?_, aft_mk hL hb ow ⟨fun o ho => ?_, fun _ => ?_⟩ hwf⟩
      · injection e
      · rw [eJ]; exact funext (fun z => up2_o _ _ _ _ ho)
      · rw [eJ, up2_eq]
theorem eng_rest0 {U' : IT} (qy : QyR K P I S0 nq lqq tn) (ev : EvI2 K P I S0 w M) (pn : PnI c I S0 U nq) (e : ∀ o, ¬ nEg o → ¬ (11000 ≤ o ∧ o < 11400) → ¬ nEv o → K' o = K o ∧ P' o = P o ∧ I' o = I o) (eq1 : ∀ o, (11000 ≤ o ∧ o < 11400) → K' o = K o ∧ P' o = P o) (eE : EvW K' P') (e10 : P' 1000 10 = P 1000 10) (hS : ∀ o y, ¬ sEg o y → T o y = S0 o y) (eU : U' 287 = U 287) : QyR K' P' I' T nq lqq tn ∧ EvI2 K' P' I' T w M ∧ PnI (c + 1) I' T U' nq := by
  have fu : ∀ o, ¬ (214 ≤ o ∧ o ≤ 236) → ¬ (239 ≤ o ∧ o ≤ 249) → o ≠ 100 → T o = S0 o := fun o a b d => funext (fun y => hS o y (by unfold sEg; omega))
  have f1 : ∀ y, ¬ (y = 16 ∨ y = 19 ∨ y = 37 ∨ y = 41 ∨ y = 44 ∨ y = 45 ∨ y = 93) → T 100 y = S0 100 y := fun y hy => hS 100 y (by unfold sEg; omega)
  obtain ⟨⟨a1, a2⟩, b, ⟨c1, c2, c3⟩, ⟨d1, d2⟩, f, g⟩ := qy
  have n20 := a1.2.1
  have x : 10000 ≤ qX nq ∧ qX nq + 32 ≤ 10672 := by unfold qX; omega
  have e1 : ∀ o, (10000 ≤ o ∧ o < 11000) → K' o = K o ∧ P' o = P o ∧ I' o = I o := fun o ho => e o (by unfold nEg; omega) (by omega) (by unfold nEv; omega)
  have eKP : ∀ o, nQv o → K' o = K o ∧ P' o = P o := fun o ho => by
    by_cases z : 11000 ≤ o ∧ o < 11400
    · exact eq1 o z
    · have := e o (by unfold nEg nQv at *; omega) z (by unfold nEv nQv at *; omega)
      exact ⟨this.1, this.2.1⟩
  have eI : ∀ o, (o = 1480 ∨ o = 999 ∨ (12200 ≤ o ∧ o < 12220)) → I' o = I o := fun o ho => (e o (by unfold nEg; omega) (by omega) (by unfold nEv; omega)).2.2
  obtain ⟨v1, v2, v3, v4, v5⟩ := ev
  refine ⟨⟨⟨a1.frm eKP ⟨eI 1480 (by omega), eI 999 (by omega), fun o o0 o1 => eI o (by omega)⟩, (f1 61 (by omega)).trans a2⟩, b.of (fun j hj => ?_) (fun o y o0 o1 _ => by rw [fu o (by omega) (by omega) (by omega)]) (fun t _ _ => by rw [fu 201 (by omega) (by omega) (by omega)]) (by rw [f1 0 (by omega)]; exact Int.le_refl _), ⟨e10.trans c1, c2.fr2 (fun a ha => (e1 _ (by omega)).1) (e1 _ (by omega)).2.1, c3.frm2 (fun o o0 o1 => (e1 o (by omega)).2.2) (fun o o0 o1 => fu o (by omega) (by omega) (by omega)) (fun t _ _ => by rw [fu 201 (by omega) (by omega) (by omega)]) ⟨by rw [f1 0 (by omega)]; exact Int.le_refl _, f1 51 (by omega), f1 52 (by omega), f1 55 (by omega)⟩⟩, ⟨d1.frm (fun o o0 o1 => ⟨(e1 o (by omega)).1, (e1 o (by omega)).2.2⟩), d2.frm (fun o o0 o1 => (eKP o (by unfold nQv; omega)).2)⟩, f.of (fun y hy => f1 y (by omega)) (fu 254 (by omega) (by omega) (by omega)) (fu 262 (by omega) (by omega) (by omega)), by rw [fu 260 (by omega) (by omega) (by omega)]; exact g⟩, ⟨eE, v2.fr (e 1416 (by unfold nEg; omega) (by omega) (by unfold nEv; omega)).2.2 (e 1417 (by unfold nEg; omega) (by omega) (by unfold nEv; omega)).2.2, ⟨(f1 77 (by omega)).trans v3.1, (f1 78 (by omega)).trans v3.2⟩, v4, by rw [fu 276 (by omega) (by omega) (by omega), (e 1417 (by unfold nEg; omega) (by omega) (by unfold nEv; omega)).2.2]; exact v5⟩, pn.frm n20 (fun o ho => (e o (by unfold nEg; omega) (by omega) (by unfold nEv; omega)).2.2) (fun o ho => fu o (by omega) (by omega) (by omega)) (f1 67 (by omega)) eU⟩
  have xj : 10000 ≤ qX j ∧ qX j + 32 ≤ 10672 := by unfold qX; omega
  unfold QuSame
  rw [(e1 (qX j) (by omega)).2.2, (e1 (qX j + 3) (by omega)).2.2, (e1 (qX j + 4) (by omega)).2.2, (e1 (qX j + 5) (by omega)).2.2, (e1 (qX j + 6) (by omega)).2.2, (e1 (qX j + 7) (by omega)).2.2]
  exact ⟨rfl, fun k _ => ⟨⟨rfl, rfl, rfl, rfl⟩, fun _ _ _ => rfl⟩⟩
theorem abs_st4 {S : IT} {j : Int} : St4 S (mAborts S j) := by
  unfold mAborts
  exact St4.of (funext (fun y => by rw [mends_o 214 y (by decide) (by decide) (by decide), mnotes_fr 214 y (Or.inl (by decide)) (Or.inl (by decide)), ab_fr (Or.inl (by decide)) (Or.inl (by decide))])) (funext (fun y => by rw [mends_o 215 y (by decide) (by decide) (by decide), mnotes_fr 215 y (Or.inl (by decide)) (Or.inl (by decide)), ab_fr (Or.inl (by decide)) (Or.inl (by decide))]))
/-- room for what settles -/
theorem LR.hx {S : IT} (eg : EgR c K P I S n N g lq lv mv q) (qy : QyR K P I S nq lqq tn) (vw : VwI K P I S nq nv l3 l4) (rm : RmR c g n nq nv lq lqq lv mv cs ns) (c5 : c < 512) : (2100 ≤ (603072 - cs) + pC g n lv mv ∧ 5306448 ≤ (7207018 - ns) + pS g n lv mv) ∧ (∀ j, j < n → I (tX j) 14 + 5 * mM S n + 5 ≤ 8190) ∧ cs + 10 ≤ 603072 ∧ ns + 1000000 ≤ 7207018 := by
  have n60 := eg.1.1.e.2.1
  have pot := eg.1.1.pot (fun j hj => by
    have := eg.2.2.1 j hj
    have m := (mM_rg (S := S) (n := n)).2.2
    omega)
  unfold RmR at rm
  have a1 := pl_b lq eg.1.1.e.1.2.2.1
  have a2 := pl_b lqq qy.1.1.1.2.2.1
  have a3 := qy.1.1.2.1
  have a4 := vw.1.1.2.1
  have a5 := eg.1.1.e.1.2.2.1
  have a6 := qy.1.1.1.2.2.1
  refine ⟨by omega, fun j hj => ?_, by omega, by omega⟩
  have := eg.2.2.1 j hj
  omega
theorem case_abort (h : LI c L xs K P J I cs ns) (c5 : c < 512) : CaseC c L xs m_Law_abort [vR (some 1000), vI p1, vR (some 50)] m_Model_abort [vR (some 100), vI p1] K P J I cs ns := by
  obtain ⟨k1, k2⟩ := h.k1000
  have hM := h.1.1.1.rs
  have rm0 := h.2.room (by omega)
  obtain ⟨n, N, g, lq, lv, mv, q, nq, lqq, tn, nv, l3, l4, w, M, eg, qz, dr, qy, vw, ev, pn, rm⟩ := h.2.u93 (z := 0)
  obtain ⟨⟨b1, b2⟩, ⟨z1, z2, z3⟩, d, f, g1⟩ := id eg
  have c19 := b2.cnt.1
  rw [sx 100 19 (Or.inr (by decide))] at c19
  have mb : MB (mS I) := b2.mb.u93 (fun o y a => (sx o y a).symm)
  have hb := hb_i (z := p1) hb_1
  have eh := ez_2 (a := eIOO) (b := eISE) (x := 1) (y := 2) (by decide) (by decide)
  by_cases hc : 0 ≤ p1 ∧ p1 < mS I 100 19
  · obtain ⟨i, hi⟩ : ∃ i : Nat, p1 = i := ⟨p1.toNat, by omega⟩
    subst hi
    have hn : i < n := by omega
    have t4 := (b2.tx i hn).1.2.2.2.1
    rw [sx 221 i (Or.inl (by decide))] at t4
    have ph := (b2.ph i hn).1
    rw [sx 221 i (Or.inl (by decide))] at ph
    have n1 : ¬ bI (0 ≤ (i : Int) ∧ (i : Int) < mS I 100 19) = 0 := by rw [bI1 hc]; decide
    by_cases h0 : mS I 221 i < 2
    · have cd0 : cd_Model_abort (mS I) i = 0 := (if_neg n1).trans (if_pos h0)
      have o0 : up2 (mS I) 100 93 0 221 i < 2 := by rw [sx 221 i (Or.inl (by decide))]; exact h0
      obtain ⟨zA, zF⟩ := z1.aborted b2 hn o0
      have rn := z1.room b2 hn o0 c5
      have zB : ZB (mAborts (up2 (mS I) 100 93 0) i) (c + 1) (-1) (mAborts (up2 (mS I) 100 93 0) i) := ⟨zA, fun _ _ _ => rfl, fun z => absurd z (by decide), St4.rf⟩
      obtain ⟨hX, hd, hX2⟩ := LR.hx eg qy vw rm c5
      have sp := abort_ex (J := J) (X := 603072 - cs) (Y := 7207018 - ns) b1 b2 hn o0 (by omega) (ZB.ok (B := mAborts (up2 (mS I) 100 93 0) i) (k := c + 1) (by omega)) zB (fun j hj => by have := hd j hj; omega) hX
      refine case_mk h.1 (by omega) hb (lw_abort k1 k2 (sp.room (by show 13 ≤ 14; omega) (by show 560 ≤ 600; omega) (Nat.le_refl _) (Nat.le_refl _)) (fun k z E K' P' J' I' hq => ?_) (fun k z r K' P' J' I' hq => ?_)) eh (fun q hq K' P' J' I' k z hQ => ?_) (fun v K' P' J' I' k z hQ => ?_)
      · obtain ⟨-, -, m', N', g', lv', mv', e, -⟩ := hq
        cases e
      · obtain ⟨-, -, m', N', g', lv', mv', e, e2, -, -, -, e3, e4, e5⟩ := hq
        injection e with e
        have po := e2.pot (fun j hj => by
          have a := e4 j hj
          dsimp only at a
          have b := hd j hj
          have m := (mM_rg (S := mSettle m' (mAborts (up2 (mS I) 100 93 0) i)) (n := n)).2.2
          omega)
        exact ⟨⟨_, e⟩, (e5 50 (by unfold nEn; omega)).1.trans k2, by omega, by omega⟩
      · obtain ⟨-, -, m', N', g', lv', mv', e, -⟩ := hQ
        cases e
      · obtain ⟨eJ, -, m', N', g', lv', mv', e, e2, e3, e4, e5, e6, e7, e8⟩ := hQ
        injection e with e
        injection e with e
        injection e with e
        refine ⟨eJ, ?_⟩
        have n60 := b1.e.2.1
        have abN : (mAb i (mS I 100 44).toNat (up2 (mS I) 100 93 0) 0).1 100 44 < 16384 := by
          have c44 : up2 (mS I) 100 93 0 100 44 = (N : Int) := b2.cnt.2.1
          have ab := (mAb_X (S := up2 (mS I) 100 93 0) (i := (i : Int)) (N := N) N (up2 (mS I) 100 93 0) N 0 (Nat.le_refl _) (Nat.le_refl _) c44 (fun r _ => ⟨rfl, rfl, rfl, rfl⟩)).1.2.1
          rw [sx 100 44 (Or.inr (by decide))] at c44
          rw [c44, Int.toNat_natCast, ab]
          omega
        have sp2 : Sp m_Model_abort false (rmv 12 400) (ex (rsK RefN K) (rsP RefN P) (rsI RefN J) (mSettle m' (mAborts (up2 (mS I) 100 93 0) i)) (.inl (some (vI (mAbortsN (up2 (mS I) 100 93 0) i))))) (rsK RefN K) (rsP RefN P) (rsI RefN J) (mS I) [vR (some 100), vI (i : Int)] := ref_0 (sp_Model_abort (J := rsI RefN J) (I := mS I) (i := i) (n := m') hM mb (fun _ => ⟨⟨by have := b2.cnt.2.1; rw [sx 100 44 (Or.inr (by decide))] at this; omega, abN⟩, e4⟩)) cd0 (by decide) (by decide)
        have fr : ∀ o y, ¬ tyX o y → mSettle m' (mAborts (up2 (mS I) 100 93 0) i) o y = up2 (mS I) 100 93 0 o y := fun o y a => (e5.2.1 o y a).trans (zF o y a)
        have en : ∀ o, ¬ nEg o → K' o = K o ∧ P' o = P o ∧ I' o = I o := fun o ho => e8 o (by unfold nEg at ho; unfold nEn; omega)
        obtain ⟨r1, r2, r3, r4⟩ := eng_rest (c := c) (U := rsI RefN J) (U' := rsI RefN J) qy vw ev pn ⟨b2.sch.2, e3.sch.2⟩ en (by rw [(e8 1000 (by unfold nEn; omega)).2.1]) (fun o y ho => fr o y (by unfold sEg at ho; unfold tyX; omega)) (abs_st4.tr e5.2.2.2) rfl
        refine wr_owe rfl (fun o _ a => e8 o a) sp2 e ⟨⟨n, N', g', lq, lv', mv', q, nq, lqq, tn, nv, l3, l4, w, M, ⟨⟨e2, e3⟩, ⟨e5.1, settle_next m' _ e4, by rw [fr 100 16 (by unfold tyX; omega)]; omega⟩, fun j hj => ?_, f.frm2 n60 (fun o o0 o1 => ?_), g1.frm (fun o o0 o1 => (e8 o (by unfold nEn; omega)).2.1)⟩, ?_, dr.frm ⟨by rw [(e8 1000 (by unfold nEn; omega)).2.2], (e8 1009 (by unfold nEn; omega)).2.2⟩ ⟨funext (fun y => fr 238 y (by unfold tyX; omega)), fr 100 37 (by unfold tyX; omega)⟩, r1, r2, r3, r4, ?_⟩, fr 100 93 (by unfold tyX; omega)⟩
        · have a := e7 j hj
          dsimp only at a
          have b := d j hj
          omega
        · have a := e8 o (by unfold nEn; omega)
          exact ⟨a.1, a.2.2⟩
        · unfold QzR at *
          rw [fr 100 0 (by unfold tyX; omega)]
          omega
        · unfold RmR at *
          omega
    · have cd2 : cd_Model_abort (mS I) i = 2 := (if_neg n1).trans (if_neg h0)
      exact case_ex (es := [(eIOO, 1), (eISE, 2)]) h c5 hb eh (es_2 nIS) (fun _ s x r => lw_abort k1 k2 s x r) (abort_no2 b1.c b1.e hn (by rw [t4]; omega)) (by decide) (by decide) (Or.inl ⟨(eISE, 2), _, List.mem_cons_of_mem _ (List.mem_singleton.mpr rfl), rfl, ref_1 (sp_Model_abort (J := rsI RefN J) (I := mS I) (i := i) (n := 0) hM mb (fun z => absurd (z.symm.trans cd2) (by decide))) cd2 (by decide) (by decide) (by decide)⟩)
  · have cd1 : cd_Model_abort (mS I) p1 = 1 := if_pos (bI0 hc)
    exact case_ex (es := [(eIOO, 1), (eISE, 2)]) h c5 hb eh (es_2 nIS) (fun _ s x r => lw_abort k1 k2 s x r) (abort_no1 b1.c b1.e (by omega)) (by decide) (by decide) (Or.inl ⟨(eIOO, 1), _, List.mem_cons_self .., rfl, ref_1 (sp_Model_abort (J := rsI RefN J) (I := mS I) (i := p1) (n := 0) hM mb (fun z => absurd (z.symm.trans cd1) (by decide))) cd1 (by decide) (by decide) (by decide)⟩)
end
