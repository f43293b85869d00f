/-! committedByLog: the case of the law -/
section
variable {K K' : KT} {P P' : PT} {I I' S S' T T' : IT} {c n N g lq nq lqq nv l3 l4 tn w k : Nat} {lv mv : Nat → Nat} {q q' : Int} {M : List (List Int)} {J : IT} {cs ns L : Nat} {xs : Int → Int} {p1 p2 p3 : Int}
theorem CB.frI1 (h : CB K P I n N g lq lv mv) (e : ∀ o, 1000 ≤ o → o ≠ 1196 → I' o = I o) : CB K P I' n N g lq lv mv := by
  obtain ⟨a, ⟨b1, b2⟩, ⟨d1, d2, d3⟩, f⟩ := h
  have lev : ∀ j, j < n → lv j < 15 ∧ mv j < 15 := fun j hj => (d3 j hj).2.2.2.2.2
  refine ⟨a, ⟨b1, ?_⟩, ⟨d1.frI (e 1448 (by decide) (by decide)), d2, d3⟩, fun j hj => ⟨(f j hj).1.fl (lev j hj) (fun o ho => e o (by unfold nTx tX at ho; omega) (by unfold nTx tX at ho; omega)), ?_⟩⟩
  · unfold LgN at *
    rw [e 1192 (by decide) (by decide)]; exact b2
  · rw [e (tX j) (by unfold tX; omega) (by unfold tX; omega)]; exact (f j hj).2
theorem LR.frI1 (h : LR c K P I S T cs ns) (e : ∀ o, 1000 ≤ o → o ≠ 1196 → I' o = I o) : LR c K P I' S T cs ns := by
  obtain ⟨n, N, g, lq, lv, mv, q, nq, lqq, tn, nv, l3, l4, w, M, ⟨⟨b1, b2⟩, z, d, f, g1⟩, qz, dr, ⟨⟨q1, q2⟩, q3, ⟨q4, q5, q6⟩, ⟨q7, q8⟩, q9⟩, ⟨⟨v1, v2⟩, v3, v4, v5⟩, ⟨e1, e2, e3, e4, e5⟩, pn, rm⟩ := h
  have n20 := q1.2.1
  refine ⟨n, N, g, lq, lv, mv, q, nq, lqq, tn, nv, l3, l4, w, M, ⟨⟨b1.frI1 e, b2.same b1.lev b1.g10 (fun o ho => e o (by unfold erC erI at ho; omega) (by unfold erC erI at ho; omega)) (fun _ _ _ => rfl) ⟨Int.le_refl _, b2.rd.2.2⟩⟩, z, fun j hj => ?_, f.frm (fun o o0 _ => ⟨rfl, e o (by omega) (by omega)⟩), g1⟩, qz, dr.frm ⟨by rw [e 1000 (by decide) (by decide)], e 1009 (by decide) (by decide)⟩ ⟨rfl, rfl⟩, ⟨⟨⟨q1.1.frI (e 1480 (by decide) (by decide)), q1.2⟩, q2⟩, q3.frI n20 (fun o o0 _ => e o (by omega) (by omega)), ⟨q4, q5, q6.frm (fun o o0 _ => e o (by unfold qX at o0; omega) (by unfold qX at o0; omega)) (fun _ _ _ => rfl) rfl ⟨rfl, rfl, rfl, rfl⟩⟩, ⟨q7.frm (fun o o0 _ => ⟨rfl, e o (by omega) (by omega)⟩), q8⟩, q9⟩, ⟨⟨⟨⟨v1.1.1.frI (e 1512 (by decide) (by decide)), v1.1.2.frI (e 1544 (by decide) (by decide))⟩, v1.2⟩, v2⟩, fun j hj => ?_, v4.frm (fun o o0 _ => ⟨rfl, e o (by omega) (by omega)⟩), v5⟩, ⟨e1, e2.fr (e 1416 (by decide) (by decide)) (e 1417 (by decide) (by decide)), e3, e4, by rw [e 1417 (by decide) (by decide)]; exact e5⟩, ?_, rm⟩
  · rw [e (tX j) (by unfold tX; omega) (by unfold tX; omega)]; exact d j hj
  · obtain ⟨a, w', M', vc, rr⟩ := v3 j hj
    exact ⟨a, w', M', vc, rr.fr (e _ (by unfold vX; omega) (by unfold vX; omega)) (e _ (by unfold vX; omega) (by unfold vX; omega))⟩
  · obtain ⟨⟨a1, a2⟩, ⟨p1, p2⟩, p3, p4, p5, p6, p7, p8⟩ := pn
    refine ⟨⟨?_, ?_⟩, ⟨fun j hj => ?_, ?_⟩, p3, p4, p5, p6, p7, by rw [e (qX nq) (by unfold qX; omega) (by unfold qX; omega)]; exact p8⟩
    · unfold PlR at *
      rw [e 1385 (by decide) (by decide), e 1386 (by decide) (by decide)]; exact a1
    · unfold PlV at *
      rw [e 1390 (by decide) (by decide), e 1393 (by decide) (by decide)]; exact a2
    · rw [e (qX j) (by unfold qX; omega) (by unfold qX; omega), e (qX j + 13) (by unfold qX; omega) (by unfold qX; omega)]; exact p1 j hj
    · rw [e 1384 (by decide) (by decide)]; exact p2
theorem case_committedByLog (h : LI c L xs K P J I cs ns) (c5 : c < 512) : CaseC c L xs m_Law_committedByLog [vR (some 1000), vI p1, vI p2, vI p3, vR (some 50)] m_Model_committedByLog [vR (some 100), vI p1, vI p2, vI p3] K P J I cs ns := by
  obtain ⟨k1, k2⟩ := h.k1000
  obtain ⟨n, N, g, lq, lv, mv, q, nq, lqq, tn, nv, l3, l4, w, M, ⟨⟨b1, b2⟩, -⟩, -⟩ := h.2
  obtain ⟨s0, s6, s00, sw⟩ := sch_of b2
  have rf := sp_Model_committedByLog (J := rsI RefN J) (t := p1) (key := p2) (c := p3) h.1.1.1.rs b2.mb
  by_cases hc : 0 ≤ p1 ∧ p1 < mS I 100 0 ∧ 0 ≤ p3 ∧ p3 < mS I 201 p1
  · have t6 : 0 ≤ p1 ∧ p1 < 6 := by omega
    obtain ⟨w1, w2⟩ := sw p1 t6.1 t6.2
    have r0 := ref_0 rf (if_neg (by rw [bI1 hc]; decide)) (by decide) (by decide)
    have ev := bylog_eq (y := p2) (c := p3) b2 b1.g10 t6 (by omega)
    have l0 := b2.lg.1.1
    have sp := committedByLog_run (J := J) (t := p1) (y := p2) (c := p3) b1.c b1.2.1.1.1 (b2.lgB b1.2.1.2 b1.g10) s6 ⟨by omega, by omega⟩ w2
    rw [l0, Int.toNat_natCast, ev] at sp
    have fI : ∀ o, o ≠ 1196 → lgCom (12000 + g) 1196 N 0 (filI I 1196 0 60 0) o = I o := fun o ho => ((com_spec (d := 12000 + g) (e := 1196) (by omega) N 0 (filI I 1196 0 60 0)).1 o ho).trans (funext (fun y => filI_fr ho))
    have lr := (h.2.tell (z := 0) (x := 0) (y := 0) c5 (by decide) (by decide)).frI1 (fun o _ => fI o)
    exact case_det (S1 := up2 (mS I) 100 93 0) (es := [(eIOO, 1)]) (kk := 0) (nn := 0) h c5 (hb_i (hb_i (hb_i hb_1))) (fun q hq => by rw [List.mem_singleton.mp hq]; decide) (fun s x r => lw_committedByLog k1 k2 s x r) sp ⟨by decide, by decide, rfl, rfl⟩ (by decide) (by decide) (fun o ho => ⟨rfl, rfl, fI o (by omega)⟩) r0 (up2_eq _ _ _ _) lr
  · have hn : ¬ ((0 ≤ p1 ∧ p1 < I 1032 0) ∧ 0 ≤ p3 ∧ p3 < I 1034 p1) := fun z => by
      obtain ⟨w1, -⟩ := sw p1 z.1.1 (by omega)
      omega
    exact case_ex (es := [(eIOO, 1)]) h c5 (hb_i (hb_i (hb_i hb_1))) (fun q hq => by rw [List.mem_singleton.mp hq]; decide) es_1 (fun _ s x r => lw_committedByLog k1 k2 s x r) (committedByLog_no1 (y := p2) b1.c s6 hn) (by decide) (by decide) (Or.inl ⟨(eIOO, 1), _, List.mem_singleton.mpr rfl, rfl, ref_1 rf (if_pos (bI0 hc)) (by decide) (by decide) (by decide)⟩)
end
