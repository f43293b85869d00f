/-! the calls that build a query: cases of the law, 3 -/
section
variable {K K' : KT} {P P' : PT} {J J' I I' I1 S0 S1 S S' T U : IT} {cs ns n N N' g g' lq lq' nq lqq tn tn' nv l3 l4 w i k z x c : Nat} {lv mv lv' mv' : Nat → Nat} {q q' : Int} {M : List (List Int)} {L : Nat} {xs : Int → Int} {p1 p2 p3 p4 p5 : Int}
theorem case_group (h : LI c L xs K P J I cs ns) (c5 : c < 512) : CaseC c L xs m_Law_group [vR (some 1000), vI p1, vI p2, vI p3, vR (some 50)] m_Model_group [vR (some 100), vI p1, vI p2, vI p3] K P J I cs ns := by
  obtain ⟨k1, k2⟩ := h.k1000
  have hM := h.1.1.1.rs
  obtain ⟨S0, hS0⟩ : ∃ S0, S0 = up2 (mS I) 100 93 0 := ⟨_, rfl⟩
  have hl : LR c K P I S0 (rsI RefN J) cs ns := by rw [hS0]; exact h.2.u93
  have sy : ∀ o y, o ≠ 100 ∨ y ≠ 93 → S0 o y = mS I o y := fun o y a => by rw [hS0]; exact sx o y a
  obtain ⟨n, N, g, lq, lv, mv, q, nq, lqq, tn, nv, l3, l4, w, M, eg, qz, dr, qy, vw, ev, pn, rm⟩ := hl
  have mb : MB (mS I) := eg.1.2.mb.u93 (fun o y a => (sy o y a).symm)
  have hb := (hb_i (z := p3) (hb_i (z := p2) (hb_i (z := p1) hb_1)))
  have eh := ez_3 (a := eISE) (b := eIOO) (d := eIAE) (x := 1) (y := 2) (z := 3) (by decide) (by decide) (by decide)
  obtain ⟨-, qs, ⟨hp, hQ, tr⟩, -, qb, q6⟩ := id qy
  have hC := eg.1.1.c
  have hs0 := eg.1.2.sch.2
  have hR0 := eg.1.2.sch.1
  have tr' : TrR I (mS I) (qX nq) tn := tr.frm (fun _ _ _ => rfl) (fun o o0 o1 => funext (fun y => (sy o y (Or.inl (by omega))).symm)) (funext (fun y => (sy 201 y (Or.inl (by decide))).symm)) ⟨(sy 100 0 (Or.inr (by decide))).symm, (sy 100 51 (Or.inr (by decide))).symm, (sy 100 52 (Or.inr (by decide))).symm, (sy 100 55 (Or.inr (by decide))).symm⟩
  have hs' : SSch (mS I) := hs0.of (fun o y ho => (sy o y (by omega)).symm)
  have hq' : QB (mS I) := qb.of (fun y hy => (sy 100 y (Or.inr (by omega))).symm) (funext (fun y => (sy 254 y (Or.inl (by decide))).symm)) (funext (fun y => (sy 262 y (Or.inl (by decide))).symm))
  obtain ⟨n52, n0, n1, n7⟩ := tr.n52
  have qB := (tr.qub hs0).1
  have lrg := tr.lrg
  have q07 := qB.1
  have q77 := qB.2.1
  rcases group_cd (c := p1) (w := p2) (o := p3) tr' hs' with ⟨cd, no⟩ | ⟨ht, ⟨cd, no⟩ | ⟨hc, ⟨cd, no⟩ | ⟨cd, a⟩⟩⟩
  · exact case_ex (es := [(eISE, 1), (eIOO, 2), (eIAE, 3)]) h c5 hb eh (es_3 (Ne.symm nIS) (Ne.symm nAS) nIA) (fun _ s x r => lw_group k1 k2 s x r) (group_no1 hC hp hQ no) (by decide) (by decide) (Or.inl ⟨(eISE, 1), _, List.mem_cons_self .., rfl, ref_1 (sp_Model_group (J := rsI RefN J) (I := mS I) (c := p1) (w := p2) (o := p3) hM hq') cd (by decide) (by decide) (by decide)⟩)
  · by_cases y : p1 = -1 ∨ (0 ≤ p1 ∧ p1 < quLast I (qX nq))
    · exact case_ex (es := [(eISE, 1), (eIOO, 2), (eIAE, 3)]) h c5 hb eh (es_3 (Ne.symm nIS) (Ne.symm nAS) nIA) (fun _ s x r => lw_group k1 k2 s x r) (group_no2b hC hp hQ qB ht y (fun u => no ⟨y, u⟩)) (by decide) (by decide) (Or.inl ⟨(eIOO, 2), _, List.mem_cons_of_mem _ (List.mem_cons_self ..), rfl, ref_1 (sp_Model_group (J := rsI RefN J) (I := mS I) (c := p1) (w := p2) (o := p3) hM hq') cd (by decide) (by decide) (by decide)⟩)
    · exact case_ex (es := [(eISE, 1), (eIOO, 2), (eIAE, 3)]) h c5 hb eh (es_3 (Ne.symm nIS) (Ne.symm nAS) nIA) (fun _ s x r => lw_group k1 k2 s x r) (group_no2a hC hp hQ qB ht y) (by decide) (by decide) (Or.inl ⟨(eIOO, 2), _, List.mem_cons_of_mem _ (List.mem_cons_self ..), rfl, ref_1 (sp_Model_group (J := rsI RefN J) (I := mS I) (c := p1) (w := p2) (o := p3) hM hq') cd (by decide) (by decide) (by decide)⟩)
  · exact case_ex (es := [(eISE, 1), (eIOO, 2), (eIAE, 3)]) h c5 hb eh (es_3 (Ne.symm nIS) (Ne.symm nAS) nIA) (fun _ s x r => lw_group k1 k2 s x r) (group_no3 hC hp hQ qB ht hc.1 hc.2 no) (by decide) (by decide) (Or.inl ⟨(eIAE, 3), _, List.mem_cons_of_mem _ (List.mem_cons_of_mem _ (List.mem_cons_self ..)), rfl, ref_1 (sp_Model_group (J := rsI RefN J) (I := mS I) (c := p1) (w := p2) (o := p3) hM hq') cd (by decide) (by decide) (by decide)⟩)
  · have hn : tn < 12 := by omega
    have h51 : 0 < S0 100 51 := by omega
    obtain ⟨t1, tv⟩ := tr.group (c := p1) (w := p2) (o := p3) (x := if p2 = 0 then 0 else p3) hs0 hn h51 hc.1 hc.2 a rfl
    have sp := group_run (J := J) hC hp hQ qB ht hc.1 hc.2 q07.1 q77.2 a rfl
    rw [tv] at sp
    have sp2 : Sp m_Model_group false (rmv 12 400) (ex (rsK RefN K) (rsP RefN P) (rsI RefN J) (f_Model_group p1 p2 p3 S0).1 (.inl (some (vI (f_Model_group p1 p2 p3 S0).2)))) (rsK RefN K) (rsP RefN P) (rsI RefN J) (mS I) [vR (some 100), vI p1, vI p2, vI p3] := by
      rw [hS0]
      exact ref_0 (sp_Model_group (J := rsI RefN J) (I := mS I) (c := p1) (w := p2) (o := p3) hM hq') cd (by decide) (by decide)
    have lr := tree_lr (U := rsI RefN J) t1 eg qz qy vw ev pn rm dr hn (fun o ho => quOne_n ho) (fun o y d1 d2 d3 d4 => (up2_x (by omega)).trans (mAdd_n (by rw [n52]; exact d3) (by omega))) quOne_9 (Or.inl (by unfold f_Model_group; dsimp only; rw [up2_o _ _ _ _ (by decide), ← n52]; exact mAdd_t))
    exact case_det (es := [(eISE, 1), (eIOO, 2), (eIAE, 3)]) (kk := 0) (nn := 0) h c5 hb eh (fun s x r => lw_group k1 k2 s x r) sp ⟨by decide, by decide, rfl, rfl⟩ (by decide) (by decide) (fun o ho => ⟨rfl, rfl, quOne_n (by unfold qX; omega)⟩) sp2 (by rw [lr.2, hS0, up2_eq]) lr.1
theorem case_keep (h : LI c L xs K P J I cs ns) (c5 : c < 512) (hr : inR p1) : CaseC c L xs m_Law_keep [vR (some 1000), vI p1, vR (some 50)] m_Model_keep [vR (some 100), vI p1] K P J I cs ns := by
  obtain ⟨k1, k2⟩ := h.k1000
  have hM := h.1.1.1.rs
  obtain ⟨S0, hS0⟩ : ∃ S0, S0 = up2 (mS I) 100 93 0 := ⟨_, rfl⟩
  have hl : LR c K P I S0 (rsI RefN J) cs ns := by rw [hS0]; exact h.2.u93
  have sy : ∀ o y, o ≠ 100 ∨ y ≠ 93 → S0 o y = mS I o y := fun o y a => by rw [hS0]; exact sx o y a
  obtain ⟨n, N, g, lq, lv, mv, q, nq, lqq, tn, nv, l3, l4, w, M, eg, qz, dr, qy, vw, ev, pn, rm⟩ := hl
  have mb : MB (mS I) := eg.1.2.mb.u93 (fun o y a => (sy o y a).symm)
  have hb := (hb_i (z := p1) hb_1)
  have eh := ez_2 (a := eISE) (b := eIAE) (x := 1) (y := 2) (by decide) (by decide)
  obtain ⟨-, qs, ⟨hp, hQ, tr⟩, -, qb, q6⟩ := id qy
  have hC := eg.1.1.c
  have hs0 := eg.1.2.sch.2
  have hR0 := eg.1.2.sch.1
  have tr' : TrR I (mS I) (qX nq) tn := tr.frm (fun _ _ _ => rfl) (fun o o0 o1 => funext (fun y => (sy o y (Or.inl (by omega))).symm)) (funext (fun y => (sy 201 y (Or.inl (by decide))).symm)) ⟨(sy 100 0 (Or.inr (by decide))).symm, (sy 100 51 (Or.inr (by decide))).symm, (sy 100 52 (Or.inr (by decide))).symm, (sy 100 55 (Or.inr (by decide))).symm⟩
  have hs' : SSch (mS I) := hs0.of (fun o y ho => (sy o y (by omega)).symm)
  have hq' : QB (mS I) := qb.of (fun y hy => (sy 100 y (Or.inr (by omega))).symm) (funext (fun y => (sy 254 y (Or.inl (by decide))).symm)) (funext (fun y => (sy 262 y (Or.inl (by decide))).symm))
  obtain ⟨n52, n0, n1, n7⟩ := tr.n52
  have qB := (tr.qub hs0).1
  have lrg := tr.lrg
  have q07 := qB.1
  have q77 := qB.2.1
  rcases keep_cd (s := p1) tr' hs' with ⟨cd, no⟩ | ⟨ht, ⟨cd, no⟩ | ⟨cd, a⟩⟩
  · exact case_ex (es := [(eISE, 1), (eIAE, 2)]) h c5 hb eh (es_2 (Ne.symm nAS)) (fun _ s x r => lw_keep k1 k2 s x r) (keep_no1 hC hp hQ no) (by decide) (by decide) (Or.inl ⟨(eISE, 1), _, List.mem_cons_self .., rfl, ref_1 (sp_Model_keep (J := rsI RefN J) (I := mS I) (s := p1) hM hq') cd (by decide) (by decide) (by decide)⟩)
  · exact case_ex (es := [(eISE, 1), (eIAE, 2)]) h c5 hb eh (es_2 (Ne.symm nAS)) (fun _ s x r => lw_keep k1 k2 s x r) (keep_no2 hC hp hQ qB ht lrg.1 hr no) (by decide) (by decide) (Or.inl ⟨(eIAE, 2), _, List.mem_cons_of_mem _ (List.mem_singleton.mpr rfl), rfl, ref_1 (sp_Model_keep (J := rsI RefN J) (I := mS I) (s := p1) hM hq') cd (by decide) (by decide) (by decide)⟩)
  · have hn : tn < 12 := by omega
    have h51 : 0 < S0 100 51 := by omega
    obtain ⟨t1, tv⟩ := tr.keep (s := p1) (x := ((wk p1 10 : Nat) : Int)) hs0 hn h51 a rfl
    have sp := keep_run (J := J) hC hp hQ qB ht lrg.1 hr q07.1 q77.2 a rfl
    rw [tv] at sp
    have sp2 : Sp m_Model_keep false (rmv 12 400) (ex (rsK RefN K) (rsP RefN P) (rsI RefN J) (f_Model_keep p1 S0).1 (.inl (some (vI (f_Model_keep p1 S0).2)))) (rsK RefN K) (rsP RefN P) (rsI RefN J) (mS I) [vR (some 100), vI p1] := by
      rw [hS0]
      exact ref_0 (sp_Model_keep (J := rsI RefN J) (I := mS I) (s := p1) hM hq') cd (by decide) (by decide)
    have lr := tree_lr (U := rsI RefN J) t1 eg qz qy vw ev pn rm dr hn (fun o ho => quOne_n ho) (fun o y d1 d2 d3 d4 => (up2_x (by omega)).trans (mAdd_n (by rw [n52]; exact d3) (by omega))) quOne_9 (Or.inl (by unfold f_Model_keep; dsimp only; rw [up2_o _ _ _ _ (by decide), ← n52]; exact mAdd_t))
    exact case_det (es := [(eISE, 1), (eIAE, 2)]) (kk := 0) (nn := 0) h c5 hb eh (fun s x r => lw_keep k1 k2 s x r) sp ⟨by decide, by decide, rfl, rfl⟩ (by decide) (by decide) (fun o ho => ⟨rfl, rfl, quOne_n (by unfold qX; omega)⟩) sp2 (by rw [lr.2, hS0, up2_eq]) lr.1
end
