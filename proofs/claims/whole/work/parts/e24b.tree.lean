/-! the calls that build a query: cases of the law, 1 -/
section
variable {K K' : KT} {P P' : PT} {J J' I I' I1 S0 S1 S S' T U : IT} {cs ns n N N' g g' lq lq' nq lqq tn tn' nv l3 l4 w i k z x c : Nat} {lv mv lv' mv' : Nat → Nat} {q q' : Int} {M : List (List Int)} {L : Nat} {xs : Int → Int} {p1 p2 p3 p4 p5 : Int}
theorem case_filter (h : LI c L xs K P J I cs ns) (c5 : c < 512) (hz : p4 = 0 ∨ p4 = 1) : CaseC c L xs m_Law_filter [vR (some 1000), vI p1, vI p2, vI p3, vI p4, vR (some 50)] m_Model_filter [vR (some 100), vI p1, vI p2, vI p3, vI p4] K P J I cs ns := by
  obtain ⟨k1, k2⟩ := h.k1000
  have hM := h.1.1.1.rs
  obtain ⟨S0, hS0⟩ : ∃ S0, S0 = up2 (mS I) 100 93 0 := ⟨_, rfl⟩
  have hl : LR c K P I S0 (rsI RefN J) cs ns := by rw [hS0]; exact h.2.u93
  have sy : ∀ o y, o ≠ 100 ∨ y ≠ 93 → S0 o y = mS I o y := fun o y a => by rw [hS0]; exact sx o y a
  obtain ⟨n, N, g, lq, lv, mv, q, nq, lqq, tn, nv, l3, l4, w, M, eg, qz, dr, qy, vw, ev, pn, rm⟩ := hl
  have mb : MB (mS I) := eg.1.2.mb.u93 (fun o y a => (sy o y a).symm)
  have hb := (hb_i (z := p4) (hb_i (z := p3) (hb_i (z := p2) (hb_i (z := p1) hb_1))))
  have eh := ez_3 (a := eISE) (b := eIOO) (d := eIAE) (x := 1) (y := 2) (z := 3) (by decide) (by decide) (by decide)
  obtain ⟨-, qs, ⟨hp, hQ, tr⟩, -, qb, q6⟩ := id qy
  have hC := eg.1.1.c
  have hs0 := eg.1.2.sch.2
  have hR0 := eg.1.2.sch.1
  have tr' : TrR I (mS I) (qX nq) tn := tr.frm (fun _ _ _ => rfl) (fun o o0 o1 => funext (fun y => (sy o y (Or.inl (by omega))).symm)) (funext (fun y => (sy 201 y (Or.inl (by decide))).symm)) ⟨(sy 100 0 (Or.inr (by decide))).symm, (sy 100 51 (Or.inr (by decide))).symm, (sy 100 52 (Or.inr (by decide))).symm, (sy 100 55 (Or.inr (by decide))).symm⟩
  have hs' : SSch (mS I) := hs0.of (fun o y ho => (sy o y (by omega)).symm)
  have hq' : QB (mS I) := qb.of (fun y hy => (sy 100 y (Or.inr (by omega))).symm) (funext (fun y => (sy 254 y (Or.inl (by decide))).symm)) (funext (fun y => (sy 262 y (Or.inl (by decide))).symm))
  obtain ⟨n52, n0, n1, n7⟩ := tr.n52
  have qB := (tr.qub hs0).1
  have lrg := tr.lrg
  have q07 := qB.1
  have q77 := qB.2.1
  rcases filter_cd (c := p1) (w := p2) (v := p3) (nt := p4) tr' hs' with ⟨cd, no⟩ | ⟨ht, ⟨cd, no⟩ | ⟨hc, ⟨cd, no⟩ | ⟨cd, a⟩⟩⟩
  · exact case_ex (es := [(eISE, 1), (eIOO, 2), (eIAE, 3)]) h c5 hb eh (es_3 (Ne.symm nIS) (Ne.symm nAS) nIA) (fun _ s x r => lw_filter k1 k2 s x r) (filter_no1 hC hp hQ no) (by decide) (by decide) (Or.inl ⟨(eISE, 1), _, List.mem_cons_self .., rfl, ref_1 (sp_Model_filter (J := rsI RefN J) (I := mS I) (c := p1) (w := p2) (v := p3) (nt := p4) hM hq' hz) cd (by decide) (by decide) (by decide)⟩)
  · exact case_ex (es := [(eISE, 1), (eIOO, 2), (eIAE, 3)]) h c5 hb eh (es_3 (Ne.symm nIS) (Ne.symm nAS) nIA) (fun _ s x r => lw_filter k1 k2 s x r) (filter_no2 hC hp hQ qB ht no) (by decide) (by decide) (Or.inl ⟨(eIOO, 2), _, List.mem_cons_of_mem _ (List.mem_cons_self ..), rfl, ref_1 (sp_Model_filter (J := rsI RefN J) (I := mS I) (c := p1) (w := p2) (v := p3) (nt := p4) hM hq' hz) cd (by decide) (by decide) (by decide)⟩)
  · exact case_ex (es := [(eISE, 1), (eIOO, 2), (eIAE, 3)]) h c5 hb eh (es_3 (Ne.symm nIS) (Ne.symm nAS) nIA) (fun _ s x r => lw_filter k1 k2 s x r) (filter_no3 hC hp hQ qB ht hc no) (by decide) (by decide) (Or.inl ⟨(eIAE, 3), _, List.mem_cons_of_mem _ (List.mem_cons_of_mem _ (List.mem_cons_self ..)), rfl, ref_1 (sp_Model_filter (J := rsI RefN J) (I := mS I) (c := p1) (w := p2) (v := p3) (nt := p4) hM hq' hz) cd (by decide) (by decide) (by decide)⟩)
  · have hn : tn < 12 := by omega
    have h51 : 0 < S0 100 51 := by omega
    rcases a.2 with y | y
    · subst y
      obtain ⟨t1, tv⟩ := tr.filter (c := p1) (w := p2) (v := -2147483648) (nt := p4) hs0 hn h51 hc
      have sp := filter_run0 (J := J) hC hp hQ qB ht hc q07.1 q77.2 a.1 hz
      rw [tv] at sp
      have sp2 : Sp m_Model_filter false (rmv 12 400) (ex (rsK RefN K) (rsP RefN P) (rsI RefN J) (f_Model_filter p1 p2 (-2147483648) p4 S0).1 (.inl (some (vI (f_Model_filter p1 p2 (-2147483648) p4 S0).2)))) (rsK RefN K) (rsP RefN P) (rsI RefN J) (mS I) [vR (some 100), vI p1, vI p2, vI (-2147483648), vI p4] := by
        rw [hS0]
        exact ref_0 (sp_Model_filter (J := rsI RefN J) (I := mS I) (c := p1) (w := p2) (v := -2147483648) (nt := p4) hM hq' hz) cd (by decide) (by decide)
      have lr := tree_lr (U := rsI RefN J) t1 eg qz qy vw ev pn rm dr hn (fun o ho => quOne_n ho) (fun o y d1 d2 d3 d4 => mAdd_n (by rw [n52]; exact d3) (by omega)) quOne_9 (by rw [← n52]; exact (show mAdd S0 1 p1 p2 (-2147483648) p4 260 (S0 100 52) = 0 ∨ mAdd S0 1 p1 p2 (-2147483648) p4 260 (S0 100 52) = 1 by rw [mAdd_t]; exact hz))
      exact case_det (es := [(eISE, 1), (eIOO, 2), (eIAE, 3)]) (kk := 0) (nn := 0) h c5 hb eh (fun s x r => lw_filter k1 k2 s x r) sp ⟨by decide, by decide, rfl, rfl⟩ (by decide) (by decide) (fun o ho => ⟨rfl, rfl, quOne_n (by unfold qX; omega)⟩) sp2 (by rw [lr.2, hS0, up2_eq]) lr.1
    · obtain ⟨t1, tv⟩ := tr.filter (c := p1) (w := p2) (v := p3) (nt := p4) hs0 hn h51 hc
      have sp := filter_runN (J := J) hC hp hQ qB ht hc q07.1 q77.2 a.1 y hz
      rw [tv] at sp
      have sp2 : Sp m_Model_filter false (rmv 12 400) (ex (rsK RefN K) (rsP RefN P) (rsI RefN J) (f_Model_filter p1 p2 p3 p4 S0).1 (.inl (some (vI (f_Model_filter p1 p2 p3 p4 S0).2)))) (rsK RefN K) (rsP RefN P) (rsI RefN J) (mS I) [vR (some 100), vI p1, vI p2, vI p3, vI p4] := by
        rw [hS0]
        exact ref_0 (sp_Model_filter (J := rsI RefN J) (I := mS I) (c := p1) (w := p2) (v := p3) (nt := p4) hM hq' hz) cd (by decide) (by decide)
      have lr := tree_lr (U := rsI RefN J) t1 eg qz qy vw ev pn rm dr hn (fun o ho => quOne_n ho) (fun o y d1 d2 d3 d4 => mAdd_n (by rw [n52]; exact d3) (by omega)) quOne_9 (by rw [← n52]; exact (show mAdd S0 1 p1 p2 p3 p4 260 (S0 100 52) = 0 ∨ mAdd S0 1 p1 p2 p3 p4 260 (S0 100 52) = 1 by rw [mAdd_t]; exact hz))
      exact case_det (es := [(eISE, 1), (eIOO, 2), (eIAE, 3)]) (kk := 0) (nn := 0) h c5 hb eh (fun s x r => lw_filter k1 k2 s x r) sp ⟨by decide, by decide, rfl, rfl⟩ (by decide) (by decide) (fun o ho => ⟨rfl, rfl, quOne_n (by unfold qX; omega)⟩) sp2 (by rw [lr.2, hS0, up2_eq]) lr.1
end
