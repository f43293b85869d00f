/-! the calls that build a query: cases of the law, 0 -/
section
variable {K K' : KT} {P P' : PT} {J J' I I' I1 S0 S1 S S' T U : IT} {cs ns n N N' g g' lq lq' nq lqq tn tn' nv l3 l4 w i k z x c : Nat} {lv mv lv' mv' : Nat → Nat} {q q' : Int} {M : List (List Int)} {L : Nat} {xs : Int → Int} {p1 p2 p3 p4 p5 : Int}
theorem case_scan (h : LI c L xs K P J I cs ns) (c5 : c < 512) : CaseC c L xs m_Law_scan [vR (some 1000), vI p1, vR (some 50)] m_Model_scan [vR (some 100), vI p1] K P J I cs ns := by
  obtain ⟨k1, k2⟩ := h.k1000
  have hM := h.1.1.1.rs
  obtain ⟨S0, hS0⟩ : ∃ S0, S0 = up2 (mS I) 100 93 0 := ⟨_, rfl⟩
  have hl : LR c K P I S0 (rsI RefN J) cs ns := by rw [hS0]; exact h.2.u93
  have sy : ∀ o y, o ≠ 100 ∨ y ≠ 93 → S0 o y = mS I o y := fun o y a => by rw [hS0]; exact sx o y a
  obtain ⟨n, N, g, lq, lv, mv, q, nq, lqq, tn, nv, l3, l4, w, M, eg, qz, dr, qy, vw, ev, pn, rm⟩ := hl
  have mb : MB (mS I) := eg.1.2.mb.u93 (fun o y a => (sy o y a).symm)
  have hb := (hb_i (z := p1) hb_1)
  have eh := ez_2 (a := eIOO) (b := eISE) (x := 1) (y := 2) (by decide) (by decide)
  obtain ⟨-, qs, ⟨hp, hQ, tr⟩, -, qb, q6⟩ := id qy
  have hC := eg.1.1.c
  have hs0 := eg.1.2.sch.2
  have hR0 := eg.1.2.sch.1
  have tr' : TrR I (mS I) (qX nq) tn := tr.frm (fun _ _ _ => rfl) (fun o o0 o1 => funext (fun y => (sy o y (Or.inl (by omega))).symm)) (funext (fun y => (sy 201 y (Or.inl (by decide))).symm)) ⟨(sy 100 0 (Or.inr (by decide))).symm, (sy 100 51 (Or.inr (by decide))).symm, (sy 100 52 (Or.inr (by decide))).symm, (sy 100 55 (Or.inr (by decide))).symm⟩
  have hs' : SSch (mS I) := hs0.of (fun o y ho => (sy o y (by omega)).symm)
  have hq' : QB (mS I) := qb.of (fun y hy => (sy 100 y (Or.inr (by omega))).symm) (funext (fun y => (sy 254 y (Or.inl (by decide))).symm)) (funext (fun y => (sy 262 y (Or.inl (by decide))).symm))
  obtain ⟨n52, n0, n1, n7⟩ := tr.n52
  have qB := (tr.qub hs0).1
  have lrg := tr.lrg
  have q07 := qB.1
  have q77 := qB.2.1
  have hR' : RSch I (mS I) := hR0.ofS (fun o y ho => (sy o y (by omega)).symm)
  have s6 := (sch_of eg.1.2)
  rcases scan_cd (t := p1) tr' hs' hR' with ⟨cd, no⟩ | ⟨ht, ⟨cd, no⟩ | ⟨cd, a⟩⟩
  · exact case_ex (es := [(eIOO, 1), (eISE, 2)]) h c5 hb eh (es_2 nIS) (fun _ s x r => lw_scan k1 k2 s x r) (scan_no1 hC no) (by decide) (by decide) (Or.inl ⟨(eIOO, 1), _, List.mem_cons_self .., rfl, ref_1 (sp_Model_scan (J := rsI RefN J) (I := mS I) (t := p1) hM mb hq') cd (by decide) (by decide) (by decide)⟩)
  · exact case_ex (es := [(eIOO, 1), (eISE, 2)]) h c5 hb eh (es_2 nIS) (fun _ s x r => lw_scan k1 k2 s x r) (scan_no2 hC hp hQ ht no) (by decide) (by decide) (Or.inl ⟨(eISE, 2), _, List.mem_cons_of_mem _ (List.mem_singleton.mpr rfl), rfl, ref_1 (sp_Model_scan (J := rsI RefN J) (I := mS I) (t := p1) hM mb hq') cd (by decide) (by decide) (by decide)⟩)
  · have hn : tn < 12 := by omega
    obtain ⟨t1, tv⟩ := tr.scan (t := p1) hs0 hR0 (by omega) hn (by omega)
    have sp := scan_run (J := J) hC hp hQ ht s6.2.1 (by omega) (by omega) (by have u := (tr.qub hs0).2.2.1; omega)
    rw [tv] at sp
    have sp2 : Sp m_Model_scan false (rmv 12 400) (ex (rsK RefN K) (rsP RefN P) (rsI RefN J) (f_Model_scan p1 S0).1 (.inl (some (vI (f_Model_scan p1 S0).2)))) (rsK RefN K) (rsP RefN P) (rsI RefN J) (mS I) [vR (some 100), vI p1] := by
      rw [hS0]
      exact ref_0 (sp_Model_scan (J := rsI RefN J) (I := mS I) (t := p1) hM mb hq') cd (by decide) (by decide)
    have lr := tree_lr (U := rsI RefN J) t1 eg qz qy vw ev pn rm dr hn (fun o ho => quScan_n ho) (fun o y d1 d2 d3 d4 => (mAdd_n (by rw [up2_x (by omega), up2_x (by omega), up2_x (by omega), up2_x (by omega), n52]; exact d3) (by omega)).trans ((up2_x (by omega)).trans ((up2_x (by omega)).trans ((up2_x (by omega)).trans (up2_x (by omega)))))) quScan_9 (Or.inl (by
      have e : up2 (up2 (up2 (up2 S0 253 (S0 100 51) (S0 100 52)) 254 (S0 100 51) (S0 201 p1)) 100 51 (S0 100 51 + 1)) 100 55 (S0 100 55 + 1) 100 52 = (tn : Int) := by rw [up2_x (by omega), up2_x (by omega), up2_x (by omega), up2_x (by omega), n52]
      rw [← e]; exact mAdd_t))
    exact case_det (es := [(eIOO, 1), (eISE, 2)]) (kk := 0) (nn := 0) h c5 hb eh (fun s x r => lw_scan k1 k2 s x r) sp ⟨by decide, by decide, rfl, rfl⟩ (by decide) (by decide) (fun o ho => ⟨rfl, rfl, quScan_n (by unfold qX; omega)⟩) sp2 (by rw [lr.2, hS0, up2_eq]) lr.1
end
