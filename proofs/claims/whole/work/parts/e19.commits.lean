/-! commit: the case of the law -/
section
variable {K K' : KT} {P P' : PT} {J J' I I' S0 T U : IT} {c cs ns n N N' g g' lq lq' n' nq lqq tn nv l3 l4 w i k z m' : Nat} {lv mv lv' mv' : Nat → Nat} {q q' : Int} {M : List (List Int)} {L : Nat} {xs : Int → Int} {p1 : Int}
theorem cm1_at (z1 : ZI c (-1) S0) (b2 : ER I S0 n N g lv mv q) (hi : i < n) (o0 : S0 221 i < 2) : ZI (c + 1) (-1) (mCm1 S0 i) ∧ (∀ o y, ¬ tyX o y → o ≠ 217 → o ≠ 218 → ¬ (o = 100 ∧ (y = 16 ∨ y = 45)) → mCm1 S0 i o y = S0 o y) ∧ mCm1 S0 i 100 16 ≤ S0 100 16 + 1 ∧ (mFail S0 i → St4 S0 (mCm1 S0 i)) := by
  by_cases hf : mFail S0 i
  · have e : mCm1 S0 i = mAborts S0 i := if_pos (bI1 hf)
    rw [e]
    obtain ⟨zA, zF⟩ := z1.aborted b2 hi o0
    exact ⟨zA, fun o y a _ _ _ => zF o y a, by rw [zF 100 16 (by unfold tyX; omega)]; omega, fun _ => abs_st4⟩
  · have e : mCm1 S0 i = mCmE S0 i := if_neg (by rw [bI0 hf]; decide)
    rw [e]
    obtain ⟨r1, -, -, r4, -⟩ := com_at b2 hi o0
    refine ⟨z1.committed b2 hi o0, fun o y a b d g => ?_, by rw [r4]; exact Int.le_refl _, fun z => absurd z hf⟩
    unfold tyX at a
    exact r1 o y (by omega) (by omega) b d (by omega) (by omega) (by omega) (by omega) (by omega)
theorem mVw_of {x : Int} (h : mVw S0 x) (e : ∀ o, 256 ≤ o → o ≤ 262 → T o = S0 o) : mVw T x := by
  unfold mVw mVwG mInner at *
  rw [e 262 (by decide) (by decide), e 256 (by decide) (by decide), e 257 (by decide) (by decide), e 258 (by decide) (by decide)]
  exact h
/-- between two calls, behind a commit -/
theorem com_lr (eg : EgR c K P I S0 n N g lq lv mv q) (qz : QzR c n nq tn S0 q) (qy : QyR K P I S0 nq lqq tn) (vw : VwI K P I S0 nq nv l3 l4) (ev : EvI2 K P I S0 w M) (pn : PnI c I S0 U nq) (rm : RmR c g n nq nv lq lqq lv mv cs ns) (dr : DrR I S0) (c5 : c < 512) (hi : i < n) (o0 : S0 221 i < 2)
    (hT : T = mSettle m' (mCm1 S0 i)) (hS : SetOK m' (mCm1 S0 i)) (hB : CB K' P' I' n N' g' lq lv' mv') (hE : ER I' T n N' g' lv' mv' q) (hZ : ZB (mCm1 S0 i) (c + 1) (-1) T) (hr : k + pC g n lv mv = pC g' n lv' mv' ∧ z + pS g n lv mv = pS g' n lv' mv') (hc : ∀ j, j < n → I' (tX j) 14 + 5 * mM T n ≤ I (tX j) 14 + 5 * mM S0 n) (eE : EvW K' P')
    (hF : ∀ o, ¬ nEn n o → ¬ nEv o → ¬ nVr o → K' o = K o ∧ P' o = P o ∧ I' o = I o) (hV : ∀ o, nVr o → K' o = K o ∧ P' o = P o) (hV0 : mFail S0 i → ∀ o, nVr o → I' o = I o) (hV1 : ¬ mFail S0 i → ∀ j : Nat, j < nv → ∃ w M, VwC T (S0 269 j) w M ∧ RelR I' (vX j) (vX j + 1) w M) (bl : ∀ o, K' o = none → ∀ y, I' o y = 0) : LR (c + 1) K' P' I' T U (cs + k) (ns + z) ∧ T 100 93 = S0 100 93 := by
  obtain ⟨⟨b1, b2⟩, ⟨z1, z2, z3⟩, d, f, g1⟩ := eg
  have n60 := b1.e.2.1
  obtain ⟨-, mF, m16, mS4⟩ := cm1_at z1 b2 hi o0
  have fr : ∀ o y, ¬ tyX o y → o ≠ 217 → o ≠ 218 → ¬ (o = 100 ∧ (y = 16 ∨ y = 45)) → T o y = S0 o y := fun o y a a1 a2 a3 => (hZ.2.1 o y a).trans (mF o y a a1 a2 a3)
  have fu : ∀ o, 256 ≤ o → T o = S0 o := fun o ho => funext (fun y => fr o y (by unfold tyX; omega) (by omega) (by omega) (by omega))
  have f1 : ∀ y, y ≠ 16 → y ≠ 41 → y ≠ 44 → y ≠ 45 → T 100 y = S0 100 y := fun y a b a' b' => fr 100 y (by unfold tyX; omega) (by decide) (by decide) (by omega)
  have t16 : T 100 16 = mCm1 S0 i 100 16 := hZ.2.1 100 16 (by unfold tyX; omega)
  have en : ∀ o, ¬ nEg o → ¬ (11000 ≤ o ∧ o < 11400) → ¬ nEv o → K' o = K o ∧ P' o = P o ∧ I' o = I o := fun o a b e => hF o (by unfold nEg at a; unfold nEn; omega) e (by unfold nVr; exact b)
  obtain ⟨r1, r3, r4⟩ := eng_rest0 (T := T) (c := c) (U := U) (U' := U) qy ev pn en (fun o ho => hV o ho) eE (by rw [(hF 1000 (by unfold nEn; omega) (by unfold nEv; omega) (by unfold nVr; omega)).2.1]) (fun o y ho => fr o y (by unfold sEg at ho; unfold tyX; omega) (by unfold sEg at ho; omega) (by unfold sEg at ho; omega) (by unfold sEg at ho; omega)) rfl
  have hv2 := vw.2.1
  obtain ⟨⟨v1, v2⟩, -, v4, v5, v6⟩ := id vw
  have ekp : ∀ o, nQv o → K' o = K o ∧ P' o = P o := fun o ho => by
    by_cases y : nVr o
    · exact hV o y
    · have := hF o (by unfold nQv at ho; unfold nEn; omega) (by unfold nQv at ho; unfold nEv; omega) y
      exact ⟨this.1, this.2.1⟩
  have ei : ∀ o, nQv o → ¬ nVr o → I' o = I o := fun o ho y => (hF o (by unfold nQv at ho; unfold nEn; omega) (by unfold nQv at ho; unfold nEv; omega) y).2.2
  have e269 : T 269 = S0 269 := fu 269 (by decide)
  have r2 : VwI K' P' I' T nq nv l3 l4 := by
    refine ⟨⟨v1.frm qy.1.1 e269 (fun j hj => (hv2 j hj).1.1) ekp ⟨ei 1512 (by unfold nQv; omega) (by unfold nVr; omega), ei 1544 (by unfold nQv; omega) (by unfold nVr; omega), ei 999 (by unfold nQv; omega) (by unfold nVr; omega), fun o x0 x1 => ei o (by unfold nQv; omega) (by unfold nVr; omega)⟩, (f1 68 (by decide) (by decide) (by decide) (by decide)).trans v2⟩, ?_, fun j j0 j1 b hb => ?_, v5.frm (fun o x0 x1 => (ekp o (by unfold nQv; omega)).2), v6.frm (fun o x0 x1 => (ekp o (by unfold nQv; omega)).2)⟩
    · by_cases hf : mFail S0 i
      · have s4 := (mS4 hf).tr hZ.2.2.2
        exact hv2.of qy.2.1 v1.2.1 ⟨⟨b2.sch.2, hE.sch.2⟩, s4, fun o x0 x1 => fu o x0, e269, f1 68 (by decide) (by decide) (by decide) (by decide), fun t _ _ => fr 201 t (by unfold tyX; omega) (by decide) (by decide) (by omega), fun t ρ => rowSeen_of (f1 8 (by decide) (by decide) (by decide) (by decide)) (fun o x0 x1 => funext (fun y => fr o y (by unfold tyX; omega) (by omega) (by omega) (by omega)))⟩ (fun o x0 x1 => hV0 hf o ⟨x0, x1⟩)
      · intro j hj
        rw [e269]
        obtain ⟨a, a2⟩ := (hv2 j hj).1
        exact ⟨⟨a, mVw_of a2 (fun o x0 _ => fu o x0)⟩, hV1 hf j hj⟩
    · have x : nVr (vX j + b) := by unfold nVr vX; omega
      have kn : K' (vX j + b) = none := ((hV _ x).1).trans (v4 j j0 j1 b hb).1
      exact ⟨kn, fun y => bl _ kn y⟩
  refine ⟨⟨n, N', g', lq, lv', mv', q, nq, lqq, tn, nv, l3, l4, w, M, ⟨⟨hB, hE⟩, ⟨hZ.1, by rw [hT]; exact settle_next m' _ hS, by omega⟩, fun j hj => ?_, f.frm2 n60 (fun o x0 x1 => ?_), g1.frm (fun o x0 x1 => (hF o (by unfold nEn; omega) (by unfold nEv; omega) (by unfold nVr; omega)).2.1)⟩, ?_, dr.frm ⟨by rw [(hF 1000 (by unfold nEn; omega) (by unfold nEv; omega) (by unfold nVr; omega)).2.2], (hF 1009 (by unfold nEn; omega) (by unfold nEv; omega) (by unfold nVr; omega)).2.2⟩ ⟨funext (fun y => fr 238 y (by unfold tyX; omega) (by decide) (by decide) (by omega)), f1 37 (by decide) (by decide) (by decide) (by decide)⟩, r1, r2, r3, r4, ?_⟩, f1 93 (by decide) (by decide) (by decide) (by decide)⟩
  · have a := hc j hj
    have b := d j hj
    omega
  · have a := hF o (by unfold nEn; omega) (by unfold nEv; omega) (by unfold nVr; omega)
    exact ⟨a.1, a.2.2⟩
  · unfold QzR at *
    rw [f1 0 (by decide) (by decide) (by decide) (by decide)]
    omega
  · unfold RmR at *
    omega
theorem case_commit (h : LI c L xs K P J I cs ns) (c5 : c < 512) : CaseC c L xs m_Law_commit [vR (some 1000), vI p1, vR (some 50)] m_Model_commit [vR (some 100), vI p1] K P J I cs ns := by
  obtain ⟨k1, k2⟩ := h.k1000
  have hM := h.1.1.1.rs
  have rm0 := h.2.room (by omega)
  obtain ⟨S0, hS0⟩ : ∃ S0, S0 = up2 (mS I) 100 93 0 := ⟨_, rfl⟩
  have hl : LR c K P I S0 (rsI RefN J) cs ns := by rw [hS0]; exact h.2.u93
  have sy : ∀ o y, o ≠ 100 ∨ y ≠ 93 → S0 o y = mS I o y := fun o y a => by rw [hS0]; exact sx o y a
  obtain ⟨n, N, g, lq, lv, mv, q, nq, lqq, tn, nv, l3, l4, w, M, eg, qz, dr, qy, vw, ev, pn, rm⟩ := hl
  obtain ⟨⟨b1, b2⟩, ⟨z1, z2, z3⟩, d, f, g1⟩ := id eg
  have c19 := b2.cnt.1
  rw [sy 100 19 (Or.inr (by decide))] at c19
  have mb : MB (mS I) := b2.mb.u93 (fun o y a => (sy o y a).symm)
  have hb := hb_i (z := p1) hb_1
  have eh := ez_2 (a := eIOO) (b := eISE) (x := 1) (y := 2) (by decide) (by decide)
  by_cases hc : 0 ≤ p1 ∧ p1 < mS I 100 19
  · obtain ⟨i, hi⟩ : ∃ i : Nat, p1 = i := ⟨p1.toNat, by omega⟩
    subst hi
    have hn : i < n := by omega
    have t4 := (b2.tx i hn).1.2.2.2.1
    rw [sy 221 i (Or.inl (by decide))] at t4
    have n1 : ¬ bI (0 ≤ (i : Int) ∧ (i : Int) < mS I 100 19) = 0 := by rw [bI1 hc]; decide
    by_cases h0 : mS I 221 i = 0
    · have cd0 : cd_Model_commit (mS I) i = 0 := (if_neg n1).trans (if_pos h0)
      have o0 : S0 221 i = 0 := (sy 221 i (Or.inl (by decide))).trans h0
      have o2 : S0 221 i < 2 := by omega
      obtain ⟨mZ, mF, -, -⟩ := cm1_at z1 b2 hn o2
      have rn := z1.room b2 hn o2 c5
      have zB : ZB (mCm1 S0 i) (c + 1) (-1) (mCm1 S0 i) := ⟨mZ, fun _ _ _ => rfl, fun z => absurd z (by decide), St4.rf⟩
      obtain ⟨hX, hd, hX2⟩ := LR.hx eg qy vw rm c5
      have c44 := b2.cnt.2.1
      have sp := commit_ex (J := J) (X := 603072 - cs) (Y := 7207018 - ns) b1 b2 hn o0 (fun r r1 r2 => z1.2.1 r (by omega) (by omega) r2) (by omega) (by omega) (by omega) ev.1 qy.2.1 qy.1.1 vw.1.1 (fun j hj => (vw.2.1 j hj).1) (ZB.ok (B := mCm1 S0 i) (k := c + 1) (by omega)) zB (fun T hT => by
        have e : ∀ o y, ¬ tyX o y → o ≠ 217 → o ≠ 218 → ¬ (o = 100 ∧ (y = 16 ∨ y = 45)) → T o y = S0 o y := fun o y a a1 a2 a3 => (hT.2.1 o y a).trans (mF o y a a1 a2 a3)
        exact ⟨funext (fun y => e 201 y (by unfold tyX; omega) (by decide) (by decide) (by omega)), fun o x0 x1 => funext (fun y => e o y (by unfold tyX; omega) (by omega) (by omega) (by omega)), e 100 0 (by unfold tyX; omega) (by decide) (by decide) (by omega)⟩) (fun j hj => by have := hd j hj; omega) hX
      refine case_mk2 h.1 (by omega) hb (lw_commit k1 k2 (sp.room (by show 13 ≤ 14; omega) (by show 560 ≤ 600; omega) (Nat.le_refl _) (Nat.le_refl _)) (fun k z E K' P' J' I' hq => ?_) (fun k z r K' P' J' I' hq => ?_)) eh (fun q hq K' P' J' I' k z hQ => ?_) (fun v K' P' J' I' k z hQ bl => ?_)
      · obtain ⟨-, -, m', N', g', lv', mv', e, -⟩ := hq
        cases e
      · obtain ⟨-, -, m', N', g', lv', mv', e, e2, e3, e4, e5, e6, e7, e8, e9, -⟩ := hq
        injection e with e
        have po := e2.pot (fun j hj => by
          have a := e7 j hj
          have b := hd j hj
          have m := (mM_rg (S := mSettle m' (mCm1 S0 i)) (n := n)).2.2
          omega)
        exact ⟨⟨_, e⟩, (e9 50 (by unfold nEn; omega) (by unfold nEv; omega) (by unfold nVr; omega)).1.trans k2, by omega, by omega⟩
      · obtain ⟨-, -, m', N', g', lv', mv', e, -⟩ := hQ
        cases e
      · obtain ⟨eJ, hOK, m', N', g', lv', mv', e, e2, e3, e4, e5, e6, e7, e8, e9, e10, e11, e12⟩ := hQ
        injection e with e
        injection e with e
        injection e with e
        refine ⟨eJ, ?_⟩
        have ef : f_Model_commit m' i S0 = (mSettle m' (mCm1 S0 i), if bI (mFail S0 i) = 1 then 3 else 0) := by
          unfold f_Model_commit mCm1
          by_cases hf : bI (mFail S0 i) = 1
          · rw [if_pos hf, if_pos hf, if_pos hf]
          · rw [if_neg hf, if_neg hf, if_neg hf]
        have sp2 := ref_0 (sp_Model_commit (J := rsI RefN J) (I := mS I) (i := i) (n := m') hM mb (fun _ => by
          rw [← hS0]
          refine ⟨hOK, fun hf => ?_, fun hf => ?_⟩
          · rw [show mCm1 S0 i = mAborts S0 i from if_pos (bI1 hf)] at e4
            exact e4
          · rw [show mCm1 S0 i = mCmE S0 i from if_neg (by rw [bI0 hf]; decide)] at e4
            exact e4)) cd0 (by decide) (by decide)
        rw [← hS0, ef] at sp2
        have lr := com_lr eg qz qy vw ev pn rm dr c5 hn o2 rfl e4 e2 e3 e5 e6 e7 e8 e9 e10 e11 e12 bl
        refine ⟨fun o ho => e9 o (by unfold nEn; omega) (by unfold nEv; omega) (by unfold nVr; omega), _, sp2, fun r K1 P1 J1 I1 hq => ?_⟩
        obtain ⟨q1, q2, q3, q4, q5⟩ := hq
        subst q4
        subst q5
        refine ⟨q2, q3, _, q1, ?_, fun _ => e, lr.1⟩
        show mSettle m' (mCm1 S0 i) 100 93 = 0
        rw [lr.2, hS0, up2_eq]
    · have cd2 : cd_Model_commit (mS I) i = 2 := (if_neg n1).trans (if_neg h0)
      exact case_ex (es := [(eIOO, 1), (eISE, 2)]) h c5 hb eh (es_2 nIS) (fun _ s x r => lw_commit k1 k2 s x r) (commit_no2 b1.c b1.e hn (by rw [t4]; omega)) (by decide) (by decide) (Or.inl ⟨(eISE, 2), _, List.mem_cons_of_mem _ (List.mem_singleton.mpr rfl), rfl, ref_1 (sp_Model_commit (J := rsI RefN J) (I := mS I) (i := i) (n := 0) hM mb (fun z => absurd (z.symm.trans cd2) (by decide))) cd2 (by decide) (by decide) (by decide)⟩)
  · have cd1 : cd_Model_commit (mS I) p1 = 1 := if_pos (bI0 hc)
    exact case_ex (es := [(eIOO, 1), (eISE, 2)]) h c5 hb eh (es_2 nIS) (fun _ s x r => lw_commit k1 k2 s x r) (commit_no1 b1.c b1.e (by omega)) (by decide) (by decide) (Or.inl ⟨(eIOO, 1), _, List.mem_cons_self .., rfl, ref_1 (sp_Model_commit (J := rsI RefN J) (I := mS I) (i := p1) (n := 0) hM mb (fun z => absurd (z.symm.trans cd1) (by decide))) cd1 (by decide) (by decide) (by decide)⟩)
end
