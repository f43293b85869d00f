/-! calls that tell: state outcome waitsFor hasRead own committed committedByLog rowsOf records -/
section
variable {K : KT} {P : PT} {J I : IT} {c cs ns : Nat} {L : Nat} {xs : Int → Int} {p1 p2 p3 p4 : Int}
theorem LI.k1000 (h : LI c L xs K P J I cs ns) : K 1000 = some (10, 0) ∧ K 50 = some (102, 1) := by
  obtain ⟨hL, n, N, g, lq, lv, mv, q, nq, lqq, tn, nv, l3, l4, w, M, ⟨⟨b1, -⟩, -⟩, -⟩ := h
  exact ⟨b1.c.k 0 rfl, hL.2.2.1⟩
theorem nIA : eIOO ≠ eIAE := by decide
theorem nIS : eIOO ≠ eISE := by decide
theorem nAS : eIAE ≠ eISE := by decide
theorem nSA : eISE ≠ eARE := by decide
theorem nIR : eIOO ≠ eARE := by decide
theorem case_state (h : LI c L xs K P J I cs ns) (c5 : c < 512) : CaseC c L xs m_Law_state [vR (some 1000), vI p1, vR (some 50)] m_Model_state [vR (some 100), vI p1] K P J I cs ns := by
  obtain ⟨k1, k2⟩ := h.k1000
  obtain ⟨n, N, g, lq, lv, mv, q, nq, lqq, tn, nv, l3, l4, w, M, ⟨⟨b1, b2⟩, -⟩, -⟩ := h.2
  have rf := sp_Model_state (J := rsI RefN J) (i := p1) h.1.1.1.rs b2.mb
  by_cases hc : 0 ≤ p1 ∧ p1 < mS I 100 19
  · obtain ⟨i, hi⟩ : ∃ i : Nat, p1 = i := ⟨p1.toNat, by omega⟩
    subst hi
    have hn : i < n := by have := b2.cnt.1; omega
    have r0 := ref_0 rf (if_neg (by rw [bI1 hc]; decide)) (by decide) (by decide)
    refine case_ex (kk := 0) (nn := 0) (es := [(eIOO, 1)]) h c5 (hb_i hb_1) (fun q hq => by rw [List.mem_singleton.mp hq]; decide) es_1 (fun _ s x r => lw_state k1 k2 s x r) (state_run b1.c b1.e hn) (by decide) (by decide) (Or.inr ⟨_, rfl, ?_⟩)
    rw [(b2.tx i hn).1.2.2.2.1]
    exact r0
  · have hn : ¬ (0 ≤ p1 ∧ p1 < n) := by have := b2.cnt.1; omega
    exact case_ex (es := [(eIOO, 1)]) h c5 (hb_i hb_1) (fun q hq => by rw [List.mem_singleton.mp hq]; decide) es_1 (fun _ s x r => lw_state k1 k2 s x r) (state_no1 b1.c b1.e hn) (by decide) (by decide) (Or.inl ⟨(eIOO, 1), _, List.mem_singleton.mpr rfl, rfl, ref_1 rf (if_pos (bI0 hc)) (by decide) (by decide) (by decide)⟩)
theorem case_outcome (h : LI c L xs K P J I cs ns) (c5 : c < 512) : CaseC c L xs m_Law_outcome [vR (some 1000), vI p1, vR (some 50)] m_Model_outcome [vR (some 100), vI p1] K P J I cs ns := by
  obtain ⟨k1, k2⟩ := h.k1000
  obtain ⟨n, N, g, lq, lv, mv, q, nq, lqq, tn, nv, l3, l4, w, M, ⟨⟨b1, b2⟩, -⟩, -⟩ := h.2
  have rf := sp_Model_outcome (J := rsI RefN J) (i := p1) h.1.1.1.rs b2.mb
  by_cases hc : 0 ≤ p1 ∧ p1 < mS I 100 19
  · obtain ⟨i, hi⟩ : ∃ i : Nat, p1 = i := ⟨p1.toNat, by omega⟩
    subst hi
    have hn : i < n := by have := b2.cnt.1; omega
    have r0 := ref_0 rf (if_neg (by rw [bI1 hc]; decide)) (by decide) (by decide)
    refine case_ex (kk := 0) (nn := 0) (es := [(eIOO, 1)]) h c5 (hb_i hb_1) (fun q hq => by rw [List.mem_singleton.mp hq]; decide) es_1 (fun _ s x r => lw_outcome k1 k2 s x r) (outcome_run b1.c b1.e hn) (by decide) (by decide) (Or.inr ⟨_, rfl, ?_⟩)
    rw [(b2.tx i hn).1.2.2.2.2.1]
    exact r0
  · have hn : ¬ (0 ≤ p1 ∧ p1 < n) := by have := b2.cnt.1; omega
    exact case_ex (es := [(eIOO, 1)]) h c5 (hb_i hb_1) (fun q hq => by rw [List.mem_singleton.mp hq]; decide) es_1 (fun _ s x r => lw_outcome k1 k2 s x r) (outcome_no1 b1.c b1.e hn) (by decide) (by decide) (Or.inl ⟨(eIOO, 1), _, List.mem_singleton.mpr rfl, rfl, ref_1 rf (if_pos (bI0 hc)) (by decide) (by decide) (by decide)⟩)
theorem case_waitsFor (h : LI c L xs K P J I cs ns) (c5 : c < 512) : CaseC c L xs m_Law_waitsFor [vR (some 1000), vI p1, vR (some 50)] m_Model_waitsFor [vR (some 100), vI p1] K P J I cs ns := by
  obtain ⟨k1, k2⟩ := h.k1000
  obtain ⟨n, N, g, lq, lv, mv, q, nq, lqq, tn, nv, l3, l4, w, M, ⟨⟨b1, b2⟩, -⟩, -⟩ := h.2
  have rf := sp_Model_waitsFor (J := rsI RefN J) (i := p1) h.1.1.1.rs b2.mb
  by_cases hc : 0 ≤ p1 ∧ p1 < mS I 100 19
  · obtain ⟨i, hi⟩ : ∃ i : Nat, p1 = i := ⟨p1.toNat, by omega⟩
    subst hi
    have hn : i < n := by have := b2.cnt.1; omega
    have r0 := ref_0 rf (if_neg (by rw [bI1 hc]; decide)) (by decide) (by decide)
    refine case_ex (kk := 0) (nn := 0) (es := [(eIOO, 1)]) h c5 (hb_i hb_1) (fun q hq => by rw [List.mem_singleton.mp hq]; decide) es_1 (fun _ s x r => lw_waitsFor k1 k2 s x r) (waitsFor_run b1.c b1.e hn) (by decide) (by decide) (Or.inr ⟨_, rfl, ?_⟩)
    rw [(b2.tx i hn).1.2.2.2.2.2]
    exact r0
  · have hn : ¬ (0 ≤ p1 ∧ p1 < n) := by have := b2.cnt.1; omega
    exact case_ex (es := [(eIOO, 1)]) h c5 (hb_i hb_1) (fun q hq => by rw [List.mem_singleton.mp hq]; decide) es_1 (fun _ s x r => lw_waitsFor k1 k2 s x r) (waitsFor_no1 b1.c b1.e hn) (by decide) (by decide) (Or.inl ⟨(eIOO, 1), _, List.mem_singleton.mpr rfl, rfl, ref_1 rf (if_pos (bI0 hc)) (by decide) (by decide) (by decide)⟩)
theorem sch_of {I S : IT} {n N g : Nat} {lv mv : Nat → Nat} {q : Int} (h : ER I S n N g lv mv q) : I 1032 0 = S 100 0 ∧ I 1032 0 ≤ 6 ∧ 0 ≤ I 1032 0 ∧ ∀ t, 0 ≤ t → t < 6 → I 1034 t = S 201 t ∧ I 1034 t ≤ 4 := by
  have a := h.sch.1
  have b := h.sch.2.1
  refine ⟨a.1, by rw [a.1]; exact b.2, by rw [a.1]; exact b.1, fun t t0 t1 => ⟨(a.2.1 t t0 t1).1, ?_⟩⟩
  rw [(a.2.1 t t0 t1).1]
  exact (h.mb.col t).2
theorem case_hasRead (h : LI c L xs K P J I cs ns) (c5 : c < 512) : CaseC c L xs m_Law_hasRead [vR (some 1000), vI p1, vI p2, vI p3, vR (some 50)] m_Model_hasRead [vR (some 100), vI p1, vI p2, vI p3] K P J I cs ns := by
  obtain ⟨k1, k2⟩ := h.k1000
  obtain ⟨n, N, g, lq, lv, mv, q, nq, lqq, tn, nv, l3, l4, w, M, ⟨⟨b1, b2⟩, ⟨z1, -⟩, -⟩, -⟩ := h.2
  have c19 := b2.cnt.1
  obtain ⟨s0, s6, s00, sw⟩ := sch_of b2
  have rf := sp_Model_hasRead (J := rsI RefN J) (i := p1) (t := p2) (key := p3) h.1.1.1.rs b2.mb (fun j => by
    by_cases y : 0 ≤ j ∧ j < mS I 100 19
    · have := b2.rd.1 j.toNat (by omega)
      rw [show ((j.toNat : Nat) : Int) = j by omega] at this
      have := b2.rd.2.2
      omega
    · rw [z1.2.2.2.1.1 j y]; omega)
  by_cases hc : (0 ≤ p1 ∧ p1 < mS I 100 19) ∧ 0 ≤ p2 ∧ p2 < mS I 100 0
  · obtain ⟨i, hi⟩ : ∃ i : Nat, p1 = i := ⟨p1.toNat, by omega⟩
    subst hi
    have hn : i < n := by omega
    have t6 : 0 ≤ p2 ∧ p2 < 6 := by omega
    have r0 := ref_0 rf (if_neg (fun z => z.elim (fun u => by rw [bI1 hc.1] at u; exact absurd u (by decide)) (fun u => by rw [bI1 hc.2] at u; exact absurd u (by decide)))) (by decide) (by decide)
    have ev := hasRead_eq (y := p3) b2 hn t6
    refine case_ex (kk := 0) (nn := 0) (es := [(eIOO, 1)]) h c5 (hb_i (hb_i (hb_i hb_1))) (fun q hq => by rw [List.mem_singleton.mp hq]; decide) es_1 (fun z s x r => lw_hasRead k1 k2 s x r (fun k n v K' P' J' I' hq => by
      have e := z k n v K' P' J' I' hq
      injection e with e
      injection e with e
      injection e with e
      rw [← e]
      exact bI_01 _)) (hasRead_run (y := p3) b1.c b1.e hn s6 (by omega) (b1.t hn).2.1) (by decide) (by decide) (Or.inr ⟨_, rfl, ?_⟩)
    rw [ev]
    have em : mRead (up2 (mS I) 100 93 0) i p2 p3 = mRead (mS I) i p2 p3 := by
      unfold mRead
      rw [up2_o _ _ _ _ (by decide), up2_o _ _ _ _ (by decide)]
      simp only [up2_o _ _ _ _ (show (234 : Nat) ≠ 100 by decide), up2_o _ _ _ _ (show (235 : Nat) ≠ 100 by decide)]
    have r1 : (f_Model_hasRead i p2 p3 (up2 (mS I) 100 93 0)).2 = bI (mRead (mS I) i p2 p3) := by
      show bI (mRead (up2 (mS I) 100 93 0) i p2 p3) = _
      rw [em]
    rw [← r1]
    exact r0
  · have hn : ¬ ((0 ≤ p1 ∧ p1 < n) ∧ 0 ≤ p2 ∧ p2 < I 1032 0) := by omega
    refine case_ex (es := [(eIOO, 1)]) h c5 (hb_i (hb_i (hb_i hb_1))) (fun q hq => by rw [List.mem_singleton.mp hq]; decide) es_1 (fun z s x r => lw_hasRead k1 k2 s x r (fun k n v K' P' J' I' hq => by
      have e := z k n v K' P' J' I' hq
      cases e)) (hasRead_no1 (y := p3) b1.c b1.e hn) (by decide) (by decide) (Or.inl ⟨(eIOO, 1), _, List.mem_singleton.mpr rfl, rfl, ref_1 rf (if_pos ?_) (by decide) (by decide) (by decide)⟩)
    by_cases y : 0 ≤ p1 ∧ p1 < mS I 100 19
    · exact Or.inr (bI0 (fun z => hc ⟨y, z⟩))
    · exact Or.inl (bI0 y)
theorem case_own (h : LI c L xs K P J I cs ns) (c5 : c < 512) : CaseC c L xs m_Law_own [vR (some 1000), vI p1, vI p2, vI p3, vI p4, vR (some 50)] m_Model_own [vR (some 100), vI p1, vI p2, vI p3, vI p4] K P J I cs ns := by
  obtain ⟨k1, k2⟩ := h.k1000
  obtain ⟨n, N, g, lq, lv, mv, q, nq, lqq, tn, nv, l3, l4, w, M, ⟨⟨b1, b2⟩, -⟩, -⟩ := h.2
  have c19 := b2.cnt.1
  obtain ⟨s0, s6, s00, sw⟩ := sch_of b2
  have rf := sp_Model_own (J := rsI RefN J) (i := p1) (t := p2) (key := p3) (c := p4) h.1.1.1.rs b2.mb
  by_cases hc : (0 ≤ p1 ∧ p1 < mS I 100 19) ∧ 0 ≤ p2 ∧ p2 < mS I 100 0 ∧ 0 ≤ p4 ∧ p4 < mS I 201 p2
  · obtain ⟨i, hi⟩ : ∃ i : Nat, p1 = i := ⟨p1.toNat, by omega⟩
    subst hi
    have hn : i < n := by omega
    have t6 : 0 ≤ p2 ∧ p2 < 6 := by omega
    obtain ⟨w1, w2⟩ := sw p2 t6.1 t6.2
    have r0 := ref_0 rf (if_neg (fun z => z.elim (fun u => by rw [bI1 hc.1] at u; exact absurd u (by decide)) (fun u => by rw [bI1 hc.2] at u; exact absurd u (by decide)))) (by decide) (by decide)
    have ev := own_eq (y := p3) (c := p4) b2 hn t6 (by omega)
    refine case_ex (kk := 0) (nn := 0) (es := [(eIOO, 1)]) h c5 (hb_i (hb_i (hb_i (hb_i hb_1)))) (fun q hq => by rw [List.mem_singleton.mp hq]; decide) es_1 (fun _ s x r => lw_own k1 k2 s x r) (own_run (y := p3) b1.c b1.e hn s6 ⟨by omega, by omega⟩ w2) (by decide) (by decide) (Or.inr ⟨_, rfl, ?_⟩)
    rw [ev]
    exact r0
  · have hn : ¬ ((0 ≤ p1 ∧ p1 < n) ∧ (0 ≤ p2 ∧ p2 < I 1032 0) ∧ 0 ≤ p4 ∧ p4 < I 1034 p2) := fun z => by
      obtain ⟨w1, -⟩ := sw p2 z.2.1.1 (by omega)
      omega
    refine case_ex (es := [(eIOO, 1)]) h c5 (hb_i (hb_i (hb_i (hb_i hb_1)))) (fun q hq => by rw [List.mem_singleton.mp hq]; decide) es_1 (fun _ s x r => lw_own k1 k2 s x r) (own_no1 (y := p3) b1.c b1.e s6 hn) (by decide) (by decide) (Or.inl ⟨(eIOO, 1), _, List.mem_singleton.mpr rfl, rfl, ref_1 rf (if_pos ?_) (by decide) (by decide) (by decide)⟩)
    by_cases y : 0 ≤ p1 ∧ p1 < mS I 100 19
    · exact Or.inr (bI0 (fun z => hc ⟨y, z⟩))
    · exact Or.inl (bI0 y)
theorem case_committed (h : LI c L xs K P J I cs ns) (c5 : c < 512) : CaseC c L xs m_Law_committed [vR (some 1000), vI p1, vI p2, vI p3, vR (some 50)] m_Model_committed [vR (some 100), vI p1, vI p2, vI p3] K P J I cs ns := by
  obtain ⟨k1, k2⟩ := h.k1000
  obtain ⟨n, N, g, lq, lv, mv, q, nq, lqq, tn, nv, l3, l4, w, M, ⟨⟨b1, b2⟩, -⟩, -⟩ := h.2
  obtain ⟨s0, s6, s00, sw⟩ := sch_of b2
  have rf := sp_Model_committed (J := rsI RefN J) (t := p1) (key := p2) (c := p3) h.1.1.1.rs b2.mb
  by_cases hc : 0 ≤ p1 ∧ p1 < mS I 100 0 ∧ 0 ≤ p3 ∧ p3 < mS I 201 p1
  · have t6 : 0 ≤ p1 ∧ p1 < 6 := by omega
    obtain ⟨w1, w2⟩ := sw p1 t6.1 t6.2
    have r0 := ref_0 rf (if_neg (by rw [bI1 hc]; decide)) (by decide) (by decide)
    have ev := committed_eq (y := p2) (c := p3) b2 t6 (by omega)
    refine case_ex (kk := 0) (nn := 0) (es := [(eIOO, 1)]) h c5 (hb_i (hb_i (hb_i hb_1))) (fun q hq => by rw [List.mem_singleton.mp hq]; decide) es_1 (fun _ s x r => lw_committed k1 k2 s x r) (committed_run (y := p2) b1.c s6 ⟨by omega, by omega⟩ w2) (by decide) (by decide) (Or.inr ⟨_, rfl, ?_⟩)
    rw [ev]
    exact r0
  · have hn : ¬ ((0 ≤ p1 ∧ p1 < I 1032 0) ∧ 0 ≤ p3 ∧ p3 < I 1034 p1) := fun z => by
      obtain ⟨w1, -⟩ := sw p1 z.1.1 (by omega)
      omega
    exact case_ex (es := [(eIOO, 1)]) h c5 (hb_i (hb_i (hb_i hb_1))) (fun q hq => by rw [List.mem_singleton.mp hq]; decide) es_1 (fun _ s x r => lw_committed k1 k2 s x r) (committed_no1 (y := p2) b1.c s6 hn) (by decide) (by decide) (Or.inl ⟨(eIOO, 1), _, List.mem_singleton.mpr rfl, rfl, ref_1 rf (if_pos (bI0 hc)) (by decide) (by decide) (by decide)⟩)
theorem case_rowsOf (h : LI c L xs K P J I cs ns) (c5 : c < 512) : CaseC c L xs m_Law_rowsOf [vR (some 1000), vI p1, vR (some 50)] m_Model_rowsOf [vR (some 100), vI p1] K P J I cs ns := by
  obtain ⟨k1, k2⟩ := h.k1000
  obtain ⟨n, N, g, lq, lv, mv, q, nq, lqq, tn, nv, l3, l4, w, M, ⟨⟨b1, b2⟩, -⟩, -⟩ := h.2
  obtain ⟨s0, s6, s00, sw⟩ := sch_of b2
  have rf := sp_Model_rowsOf (J := rsI RefN J) (t := p1) h.1.1.1.rs b2.mb
  by_cases hc : 0 ≤ p1 ∧ p1 < mS I 100 0
  · have t6 : 0 ≤ p1 ∧ p1 < 6 := by omega
    have r0 := ref_0 rf (if_neg (by rw [bI1 hc]; decide)) (by decide) (by decide)
    refine case_ex (kk := 0) (nn := 0) (es := [(eIOO, 1)]) h c5 (hb_i hb_1) (fun q hq => by rw [List.mem_singleton.mp hq]; decide) es_1 (fun _ s x r => lw_rowsOf k1 k2 s x r) (rowsOf_run b1.c (by omega) s6) (by decide) (by decide) (Or.inr ⟨_, rfl, ?_⟩)
    rw [rowsOf_eq b2 t6]
    exact r0
  · exact case_ex (es := [(eIOO, 1)]) h c5 (hb_i hb_1) (fun q hq => by rw [List.mem_singleton.mp hq]; decide) es_1 (fun _ s x r => lw_rowsOf k1 k2 s x r) (rowsOf_no1 b1.c (by omega)) (by decide) (by decide) (Or.inl ⟨(eIOO, 1), _, List.mem_singleton.mpr rfl, rfl, ref_1 rf (if_pos (bI0 hc)) (by decide) (by decide) (by decide)⟩)
theorem case_recordKind (h : LI c L xs K P J I cs ns) (c5 : c < 512) : CaseC c L xs m_Law_recordKind [vR (some 1000), vI p1, vR (some 50)] m_Model_recordKind [vR (some 100), vI p1] K P J I cs ns := by
  obtain ⟨k1, k2⟩ := h.k1000
  obtain ⟨n, N, g, lq, lv, mv, q, nq, lqq, tn, nv, l3, l4, w, M, ⟨⟨b1, b2⟩, -⟩, -⟩ := h.2
  have c44 := b2.cnt.2.1
  have c16 := b2.cnt.2.2.2
  have lg := b2.lg
  have rf := sp_Model_recordKind (I := mS I) (J := rsI RefN J) (i := p1) h.1.1.1.rs (by omega)
  by_cases hc : 0 ≤ p1 ∧ p1 < mS I 100 44
  · have r0 := ref_0 rf (if_neg (by rw [bI1 hc]; decide)) (by decide) (by decide)
    have e := (lg.2 p1.toNat (by omega)).1
    unfold lgF at e
    rw [show ((p1.toNat : Nat) : Int) = p1 by omega, Int.add_zero] at e
    refine case_ex (kk := 0) (nn := 0) (es := [(eIOO, 1)]) h c5 (hb_i hb_1) (fun q hq => by rw [List.mem_singleton.mp hq]; decide) es_1 (fun _ s x r => lw_recordKind k1 k2 s x r) (recordKind_run b1.c b1.v.1 (b2.lgB b1.l b1.g10) (by omega)) (by decide) (by decide) (Or.inr ⟨_, rfl, ?_⟩)
    rw [e]
    exact r0
  · exact case_ex (es := [(eIOO, 1)]) h c5 (hb_i hb_1) (fun q hq => by rw [List.mem_singleton.mp hq]; decide) es_1 (fun _ s x r => lw_recordKind k1 k2 s x r) (recordKind_no1 b1.c b1.v.1 (b2.lgB b1.l b1.g10) (by omega)) (by decide) (by decide) (Or.inl ⟨(eIOO, 1), _, List.mem_singleton.mpr rfl, rfl, ref_1 rf (if_pos (bI0 hc)) (by decide) (by decide) (by decide)⟩)
theorem case_recordOf (h : LI c L xs K P J I cs ns) (c5 : c < 512) : CaseC c L xs m_Law_recordOf [vR (some 1000), vI p1, vR (some 50)] m_Model_recordOf [vR (some 100), vI p1] K P J I cs ns := by
  obtain ⟨k1, k2⟩ := h.k1000
  obtain ⟨n, N, g, lq, lv, mv, q, nq, lqq, tn, nv, l3, l4, w, M, ⟨⟨b1, b2⟩, -⟩, -⟩ := h.2
  have c44 := b2.cnt.2.1
  have c16 := b2.cnt.2.2.2
  have lg := b2.lg
  have rf := sp_Model_recordOf (I := mS I) (J := rsI RefN J) (i := p1) h.1.1.1.rs (by omega)
  by_cases hc : 0 ≤ p1 ∧ p1 < mS I 100 44
  · have r0 := ref_0 rf (if_neg (by rw [bI1 hc]; decide)) (by decide) (by decide)
    have e := (lg.2 p1.toNat (by omega)).2.1
    unfold lgF at e
    rw [show ((p1.toNat : Nat) : Int) = p1 by omega] at e
    refine case_ex (kk := 0) (nn := 0) (es := [(eIOO, 1)]) h c5 (hb_i hb_1) (fun q hq => by rw [List.mem_singleton.mp hq]; decide) es_1 (fun _ s x r => lw_recordOf k1 k2 s x r) (recordOf_run b1.c b1.v.1 (b2.lgB b1.l b1.g10) (by omega)) (by decide) (by decide) (Or.inr ⟨_, rfl, ?_⟩)
    rw [e]
    exact r0
  · exact case_ex (es := [(eIOO, 1)]) h c5 (hb_i hb_1) (fun q hq => by rw [List.mem_singleton.mp hq]; decide) es_1 (fun _ s x r => lw_recordOf k1 k2 s x r) (recordOf_no1 b1.c b1.v.1 (b2.lgB b1.l b1.g10) (by omega)) (by decide) (by decide) (Or.inl ⟨(eIOO, 1), _, List.mem_singleton.mpr rfl, rfl, ref_1 rf (if_pos (bI0 hc)) (by decide) (by decide) (by decide)⟩)
theorem case_recordAt (h : LI c L xs K P J I cs ns) (c5 : c < 512) : CaseC c L xs m_Law_recordAt [vR (some 1000), vI p1, vI p2, vR (some 50)] m_Model_recordAt [vR (some 100), vI p1, vI p2] K P J I cs ns := by
  obtain ⟨k1, k2⟩ := h.k1000
  obtain ⟨n, N, g, lq, lv, mv, q, nq, lqq, tn, nv, l3, l4, w, M, ⟨⟨b1, b2⟩, -⟩, -⟩ := h.2
  have c44 := b2.cnt.2.1
  have c16 := b2.cnt.2.2.2
  have lg := b2.lg
  have rf := sp_Model_recordAt (I := mS I) (J := rsI RefN J) (i := p1) (w := p2) h.1.1.1.rs (by omega)
  by_cases hc : 0 ≤ p1 ∧ p1 < mS I 100 44
  · have r0 := ref_0 rf (if_neg (by rw [bI1 hc]; decide)) (by decide) (by decide)
    obtain ⟨-, -, e2, e3⟩ := lg.2 p1.toNat (by omega)
    unfold lgF at e2 e3
    rw [show ((p1.toNat : Nat) : Int) = p1 by omega] at e2 e3
    refine case_ex (kk := 0) (nn := 0) (es := [(eIOO, 1)]) h c5 (hb_i (hb_i hb_1)) (fun q hq => by rw [List.mem_singleton.mp hq]; decide) es_1 (fun _ s x r => lw_recordAt k1 k2 s x r) (recordAt_run (c := p2) b1.c b1.v.1 (b2.lgB b1.l b1.g10) (by omega)) (by decide) (by decide) (Or.inr ⟨_, rfl, ?_⟩)
    rw [e2, e3]
    exact r0
  · exact case_ex (es := [(eIOO, 1)]) h c5 (hb_i (hb_i hb_1)) (fun q hq => by rw [List.mem_singleton.mp hq]; decide) es_1 (fun _ s x r => lw_recordAt k1 k2 s x r) (recordAt_no1 (c := p2) b1.c b1.v.1 (b2.lgB b1.l b1.g10) (by omega)) (by decide) (by decide) (Or.inl ⟨(eIOO, 1), _, List.mem_singleton.mpr rfl, rfl, ref_1 rf (if_pos (bI0 hc)) (by decide) (by decide) (by decide)⟩)
end
