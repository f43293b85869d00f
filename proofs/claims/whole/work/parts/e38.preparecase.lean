/-! prepare: the case of the law, the whole -/
section
variable {K K' : KT} {P P' : PT} {J J' I I' I1 S0 S1 S S' T U X Y : IT} {c cs ns n N N' g g' lq lq' nq lqq tn nv l3 l4 w w' n' i y k z t : Nat} {lv mv lv' mv' : Nat → Nat} {q q' x : Int} {M M' LL : List (List Int)} {L : Nat} {xs : Int → Int} {p1 p2 p3 p4 p5 : Int}
theorem case_prepare (h : LI c L xs K P J I cs ns) (c5 : c < 512) : CaseC c L xs m_Law_prepare [vR (some 1000), vI p1, vR (some 50)] m_Model_prepare [vR (some 100), vI p1] K P J I cs ns := by
  obtain ⟨k1, k2⟩ := h.k1000
  have hM := h.1.1.1.rs
  obtain ⟨S0, hS0⟩ : ∃ S0, S0 = up2 (mS I) 100 93 0 := ⟨_, rfl⟩
  have hl : LR c K P I S0 (rsI RefN J) cs ns := by rw [hS0]; exact h.2.u93
  have sy : ∀ o y, o ≠ 100 ∨ y ≠ 93 → S0 o y = mS I o y := fun o y a => by rw [hS0]; exact sx o y a
  have s93 : S0 100 93 = 0 := by rw [hS0, up2_eq]
  obtain ⟨n, N, g, lq, lv, mv, q, nq, lqq, tn, nv, l3, l4, w, M, eg, qz, dr, qy, vw, ev, pn, rm⟩ := hl
  obtain ⟨b1, b2⟩ := id eg.1
  have hC := b1.c
  have hb := hb_i (z := p1) hb_1
  have eh := ez_1 (a := eIOO) (x := 1) (by decide)
  have s61 := qy.1.2
  have c61 := sy 100 61 (Or.inr (by decide))
  have c67 := sy 100 67 (Or.inr (by decide))
  have n20 := qy.1.1.2.1
  obtain ⟨⟨pr, pv⟩, pR, j87, p92, p67, p65, p63, -⟩ := id pn
  by_cases hc : 0 ≤ p1 ∧ p1 < nq
  · obtain ⟨y, hy⟩ : ∃ y : Nat, p1 = y := ⟨p1.toNat, by omega⟩
    subst hy
    have hq : y < nq := by omega
    obtain ⟨n', w', c', ⟨e62, m1⟩, hqv, hws, hqr, hqn⟩ := qy.2.1 y hq
    have n12 := hqv.1
    have e0 := hqr.1
    have xq : 10000 ≤ qX y := by unfold qX; omega
    have qw := (qy.1.1.2.2 y hq).2
    have pre : PreOK2 (rsI RefN J) (mS I) y n' := pre_ok hS0.symm b2.mb b2.sch.2 hqv hqr hqn e62 m1 xq pr p92 j87
    have ref := sp_Model_prepare2 (J := rsI RefN J) (I := mS I) (q := (y : Int)) (n := n') hM (by omega) (by omega) (fun _ _ => pre)
    have c63 := sy 263 y (Or.inl (by decide))
    by_cases h9 : I (qX y) 9 = 0
    · have e63 : mS I 263 y = 0 := c63.symm.trans ((pR.1 y hq).1.2.mp h9)
      have tE : ∀ U1 : IT, NI (up2 (mS I) 100 93 0) U1 (12 * ((y : Int) + 1)) n' → Qk I S0 U1 (qX y) (12 * ((y : Int) + 1)) n' := fun U1 hN => ⟨⟨b2.sch.2, hqv⟩, hqr, hqn, by rw [hS0]; exact hN⟩
      by_cases ht : tpR I (qX y) (n' - 1) = -1
      · have spP := sp_plan1 (J := J) hC qw (show I (qX y) 0 = ((n' - 1 : Nat) : Int) + 1 by omega) (by omega) ht
        have sp := prepare_run (J := J) hC qy.1.1 hq h9 spP
        rw [if_pos h9] at sp
        refine case_fy (I1 := I) (es := [(eIOO, 1)]) h c5 hb eh es_1 (fun s x r => lw_prepare k1 k2 s x r) sp (by decide) (by decide) (fun _ _ => rfl) ref (by decide) (by decide) (Or.inr ⟨-1, rfl, fun v' J2 U hφ => ?_⟩)
        rcases hφ with ⟨no, -⟩ | ⟨-, no, -⟩ | ⟨-, -, U1, hN, ⟨-, hv, hJ, hU⟩ | ⟨no, -⟩⟩
        · exact absurd ⟨hc.1, by omega⟩ no
        · exact absurd e63 no
        · subst hU; subst hJ
          rw [← hS0] at hN
          have fS : ∀ (o : Nat) (z : Int), ¬ (277 ≤ o ∧ o ≤ 290) → U o z = S0 o z := fun o z a => hN.1 o z (by omega) (by omega) (by omega) (by omega)
          have fu : ∀ o, ¬ (277 ≤ o ∧ o ≤ 290) → U o = S0 o := fun o a => funext (fun z => fS o z a)
          refine ⟨(fS 100 93 (by decide)).trans s93, hv.symm, plan_lr eg qz qy vw ev pn rm dr hq (fun _ _ _ _ _ => rfl) (fun _ _ _ _ => rfl) (fun o z a _ _ => fS o z a) ?_ pv j87 (by rw [fu 100 (by decide)]; omega) (by rw [fu 265 (by decide)]; exact p65) (by rw [fu 263 (by decide)]; exact p63)⟩
          unfold PnR at *
          rw [fu 263 (by decide), fu 264 (by decide), fu 265 (by decide), fu 266 (by decide), fu 100 (by decide)]
          exact pR
        · exact absurd ((top_eq (tE U1 hN) m1).1.trans ht) no
      · obtain ⟨top, nl, m, et, hk, hpv⟩ := plan_ok b2.sch.2 hqv hqr hqn rfl m1 xq pr pv ht
        have p13 := pR.2
        have spP := sp_plan2 (J := J) hC qw xq et hk (by omega)
        have sp := prepare_run (J := J) hC qy.1.1 hq h9 spP
        refine case_fy (I1 := plI I (qX y) top n' nl m) (es := [(eIOO, 1)]) h c5 hb eh es_1 (fun s x r => lw_prepare k1 k2 s x r) sp (by decide) (by decide) (fun o ho => rc_fr (by omega) (by omega) (by omega) (by omega)) ref (by decide) (by decide) (Or.inr ⟨_, rfl, fun v' J2 U hφ => ?_⟩)
        rcases hφ with ⟨no, -⟩ | ⟨-, no, -⟩ | ⟨-, -, U1, hN, ⟨no, -⟩ | ⟨-, JA, U2, U3, hB, h3, hv, hJ, hU⟩⟩
        · exact absurd ⟨hc.1, by omega⟩ no
        · exact absurd e63 no
        · exact absurd ((top_eq (tE U1 hN) m1).1.symm.trans no) ht
        · obtain ⟨⟨l1, l2, l3⟩, ⟨g9, g10, g11, g13⟩, gk, g14, gJ, -⟩ := plan_eq (tE U1 hN) m1 xq pr p92 j87 et hk hB h3
          rw [l1, l2] at hv hU
          rw [← hS0] at hN
          have u3 : ∀ (o : Nat) (z : Int), ¬ (277 ≤ o ∧ o ≤ 290) → ¬ (o = 100 ∧ (z = 84 ∨ z = 88)) → U3 o z = S0 o z := fun o z a b => (h3 o z (by omega)).trans ((hB.1.1 o z (by omega) b).trans (hN.1 o z (by omega) (by omega) (by omega) (by omega)))
          generalize (blkF U2 (12 * ((y : Int) + 1)) n' (mFirstJ U1 y n') 0).foldl (psF U2 y) JA = JC at *
          obtain ⟨r63, r64, r65, r67, rO, -⟩ := prE_at (Q := (y : Int)) (nl := nl) (m := m) (JC := JC) (U3 := U3)
          rw [← hU] at r63 r64 r65 r67 rO
          have fS : ∀ (o : Nat) (z : Int), ¬ (277 ≤ o ∧ o ≤ 290) → ¬ (263 ≤ o ∧ o ≤ 266) → ¬ (o = 100 ∧ (z = 67 ∨ z = 84 ∨ z = 88)) → U o z = S0 o z := fun o z a b d => (rO o z (by omega) (by omega) (by omega) (by omega) (by omega)).trans (u3 o z a (by omega))
          have hPn := pR.plan (I' := plI I (qX y) top n' nl m) (JC := JC) (U3 := U3) (m := m) n20 hq (fun o z ho => u3 o z (by omega) (by omega)) l3 ⟨g9, g10, g11, g13⟩ (fun j hj hjy => ⟨rc_fr (by unfold qX; omega) (by unfold qX; omega) (by unfold qX; omega) (by unfold qX; omega), rc_fr (by unfold qX; omega) (by unfold qX; omega) (by unfold qX; omega) (by unfold qX; omega)⟩) g14
          rw [← hU] at hPn
          refine ⟨(fS 100 93 (by decide) (by decide) (by decide)).trans s93, ?_, plan_lr eg qz qy vw ev pn rm dr hq (fun o a b d e => rc_fr a b d e) gk (fun o z a b d => fS o z a b (by omega)) hPn hpv (by rw [hJ]; exact gJ) (by rw [r67, u3 100 67 (by decide) (by decide)]; omega) (fun k => ?_) (fun k j0 j1 => ?_)⟩
          · rw [if_neg (by rw [g9]; decide), g10, hv]
          · rw [r65, up2_if]
            split
            · omega
            · rw [u3 265 k (by decide) (by omega)]; exact p65 k
          · rw [r63, up2_if, if_neg (by omega), u3 263 k (by decide) (by omega)]
            exact p63 k j0 j1
    · have e64 := ((pR.1 y hq).2 h9).1
      rw [sy 264 y (Or.inl (by decide))] at e64
      have n63 : mS I 263 y ≠ 0 := fun z => h9 ((pR.1 y hq).1.2.mpr (c63.trans z))
      refine case_fy (I1 := I) (es := [(eIOO, 1)]) h c5 hb eh es_1 (fun s x r => lw_prepare k1 k2 s x r) (prepare_had (J := J) hC qy.1.1 hq h9) (by decide) (by decide) (fun _ _ => rfl) ref (by decide) (by decide) (Or.inr ⟨_, rfl, fun v' J2 U hφ => ?_⟩)
      rcases hφ with ⟨no, -⟩ | ⟨-, -, hv, hJ, hU⟩ | ⟨-, no, -⟩
      · exact absurd ⟨hc.1, by omega⟩ no
      · subst hU; subst hJ
        exact ⟨up2_eq _ _ _ _, e64.trans hv.symm, h.2.tell (x := 0) (y := 0) c5 (by decide) (by decide)⟩
      · exact absurd no n63
  · have ref := sp_Model_prepare2 (J := rsI RefN J) (I := mS I) (q := p1) (n := 0) hM (by omega) (by omega) (fun u _ => absurd (by omega) hc)
    refine case_fy (I1 := I) (es := [(eIOO, 1)]) h c5 hb eh es_1 (fun s x r => lw_prepare k1 k2 s x r) (prepare_no1 (J := J) hC qy.1.1 hc) (by decide) (by decide) (fun _ _ => rfl) ref (by decide) (by decide) (Or.inl ⟨(eIOO, 1), List.mem_cons_self .., rfl, fun v' J2 U hφ => ?_⟩)
    rcases hφ with ⟨-, -, hJ, hU⟩ | ⟨u, -⟩ | ⟨u, -⟩
    · subst hU; subst hJ
      exact ⟨up2_eq _ _ _ _, h.2.tell (x := 1) (y := 6) c5 (by decide) (by decide)⟩
    · exact absurd (by omega) hc
    · exact absurd (by omega) hc
end
